def J_X10_spread_99 (y0 : Int32) (w : wS) : Option (Int32 × wS) :=
  some (y0, w)
set_option maxRecDepth 20000 in
theorem J_X10_spread_99_ok {G : aG} {Hf : wS → aH} {b : Nat} {y0 : Int32} {w : wS} {r : Int32 × wS} (E : Emb Hf b 0 tbM) (hL : J_X10_spread_99  y0 w = some r) : AG G M_X10_spread 99 [none, none, none, none, none, none] [.int (y0)] (Hf w) (.inl (some (.int r.1)), Hf r.2) := by
  unfold J_X10_spread_99 at hL
  obtain rfl := Option.some.inj hL
  exact g_iret rfl dX10_spread_99
def J_X10_spread_81 (kh29 : Int32 → Int32 → Int32 → Int32 → wS → Option (Int32 × wS)) (ke87 : Int32 → Int32 → wS → Option (Int32 × wS)) (x1 : Int32) (x2 : Int32) (x3 : Int32) (x4 : Int32) (w : wS) : Option (Int32 × wS) :=
  kh29 (x1) (x2) (x3) ((x4 + 1)) w
set_option maxRecDepth 20000 in
theorem J_X10_spread_81_ok {G : aG} {Hf : wS → aH} {b : Nat} {kh29 : Int32 → Int32 → Int32 → Int32 → wS → Option (Int32 × wS)} {ke87 : Int32 → Int32 → wS → Option (Int32 × wS)} {x1 : Int32} {x2 : Int32} {x3 : Int32} {x4 : Int32} {w : wS} {r : Int32 × wS} (E : Emb Hf b 0 tbM) (hL : J_X10_spread_81 kh29 ke87 x1 x2 x3 x4 w = some r) (Hkh29 : ∀ (z0 : Int32) (z1 : Int32) (z2 : Int32) (z3 : Int32) (w : wS), kh29 z0 z1 z2 z3 w = some r → AG G M_X10_spread 29 [some (.ref (b + 0)), some (.int (z0)), some (.int (z1)), some (.int (z2)), some (.int (z3)), none] [] (Hf w) (.inl (some (.int r.1)), Hf r.2)) (Hke87 : ∀ (z0 : Int32) (z1 : Int32) (w : wS), ke87 z0 z1 w = some r → AG G M_X10_spread 87 [none, none, some (.int (z0)), some (.int (z1)), none, none] [] (Hf w) (.inl (some (.int r.1)), Hf r.2)) : AG G M_X10_spread 81 [some (.ref (b + 0)), some (.int (x1)), some (.int (x2)), some (.int (x3)), some (.int (x4)), none] [] (Hf w) (.inl (some (.int r.1)), Hf r.2) := by
  unfold J_X10_spread_81 at hL
  refine g_iincV (v := (x4 + 1)) dX10_spread_81 rfl rfl (by decide) rfl ?_
  refine g_goto (tgt := 29) dX10_spread_84 (by decide) ?_
  exact Hkh29 _ _ _ _ _ hL
def J_X10_spread_73 (kh29 : Int32 → Int32 → Int32 → Int32 → wS → Option (Int32 × wS)) (ke87 : Int32 → Int32 → wS → Option (Int32 × wS)) (x1 : Int32) (x3 : Int32) (x4 : Int32) (x5 : Int32) (y0 : Int32) (w : wS) : Option (Int32 × wS) :=
  xB (L_X10_lesser (x3) (x5)) fun v1 => J_X10_spread_81 kh29 ke87 (x1) (y0) (v1) (x4) w
set_option maxRecDepth 20000 in
theorem J_X10_spread_73_ok {G : aG} {Hf : wS → aH} {b : Nat} {kh29 : Int32 → Int32 → Int32 → Int32 → wS → Option (Int32 × wS)} {ke87 : Int32 → Int32 → wS → Option (Int32 × wS)} {x1 : Int32} {x3 : Int32} {x4 : Int32} {x5 : Int32} {y0 : Int32} {w : wS} {r : Int32 × wS} (E : Emb Hf b 0 tbM) (hL : J_X10_spread_73 kh29 ke87 x1 x3 x4 x5 y0 w = some r) (Hkh29 : ∀ (z0 : Int32) (z1 : Int32) (z2 : Int32) (z3 : Int32) (w : wS), kh29 z0 z1 z2 z3 w = some r → AG G M_X10_spread 29 [some (.ref (b + 0)), some (.int (z0)), some (.int (z1)), some (.int (z2)), some (.int (z3)), none] [] (Hf w) (.inl (some (.int r.1)), Hf r.2)) (Hke87 : ∀ (z0 : Int32) (z1 : Int32) (w : wS), ke87 z0 z1 w = some r → AG G M_X10_spread 87 [none, none, some (.int (z0)), some (.int (z1)), none, none] [] (Hf w) (.inl (some (.int r.1)), Hf r.2)) : AG G M_X10_spread 73 [some (.ref (b + 0)), some (.int (x1)), none, some (.int (x3)), some (.int (x4)), some (.int (x5))] [.int (y0)] (Hf w) (.inl (some (.int r.1)), Hf r.2) := by
  unfold J_X10_spread_73 at hL
  refine g_istore_n (i := 2) dX10_spread_73 rfl (by decide) rfl ?_
  refine g_iload_n dX10_spread_74 rfl rfl ?_
  refine g_none 3 ?_
  refine g_iload dX10_spread_75 rfl ?_
  refine g_none 5 ?_
  obtain ⟨v1, hc, hL⟩ := xB_some hL
  refine g_callS (M' := M_X10_lesser) (as := [.int (x3), .int (x5)]) (v := some (.int (v1))) l_X10_331 kS_X10_lesser (by decide) (C_X10_lesser hc) rfl (Nat.le_of_ble_eq_true rfl) dX10_spread_77 ?_
  refine g_istore_n (i := 3) dX10_spread_80 rfl (by decide) rfl ?_
  exact J_X10_spread_81_ok E hL Hkh29 Hke87
def B_X10_spread_29 (kh29 : Int32 → Int32 → Int32 → Int32 → wS → Option (Int32 × wS)) (ke87 : Int32 → Int32 → wS → Option (Int32 × wS)) (x1 : Int32) (x2 : Int32) (x3 : Int32) (x4 : Int32) (w : wS) : Option (Int32 × wS) :=
  xB (xGet w 1) fun v2 => if v2 ≤ x4 then ke87 (x2) (x3) w else xB (xAld w 22 48 (((8 * x1) + x4))) fun v3 => if v3 = (-1) then J_X10_spread_81 kh29 ke87 (x1) (x2) (x3) (x4) w else if v3 ≤ x2 then J_X10_spread_73 kh29 ke87 (x1) (x3) (x4) (v3) (x2) w else J_X10_spread_73 kh29 ke87 (x1) (x3) (x4) (v3) (v3) w
set_option maxRecDepth 20000 in
theorem B_X10_spread_29_ok {G : aG} {Hf : wS → aH} {b : Nat} {kh29 : Int32 → Int32 → Int32 → Int32 → wS → Option (Int32 × wS)} {ke87 : Int32 → Int32 → wS → Option (Int32 × wS)} {x1 : Int32} {x2 : Int32} {x3 : Int32} {x4 : Int32} {w : wS} {r : Int32 × wS} (E : Emb Hf b 0 tbM) (hL : B_X10_spread_29 kh29 ke87 x1 x2 x3 x4 w = some r) (Hkh29 : ∀ (z0 : Int32) (z1 : Int32) (z2 : Int32) (z3 : Int32) (w : wS), kh29 z0 z1 z2 z3 w = some r → AG G M_X10_spread 29 [some (.ref (b + 0)), some (.int (z0)), some (.int (z1)), some (.int (z2)), some (.int (z3)), none] [] (Hf w) (.inl (some (.int r.1)), Hf r.2)) (Hke87 : ∀ (z0 : Int32) (z1 : Int32) (w : wS), ke87 z0 z1 w = some r → AG G M_X10_spread 87 [none, none, some (.int (z0)), some (.int (z1)), none, none] [] (Hf w) (.inl (some (.int r.1)), Hf r.2)) : AG G M_X10_spread 29 [some (.ref (b + 0)), some (.int (x1)), some (.int (x2)), some (.int (x3)), some (.int (x4)), none] [] (Hf w) (.inl (some (.int r.1)), Hf r.2) := by
  unfold B_X10_spread_29 at hL
  refine g_iload dX10_spread_29 rfl ?_
  refine g_aload_n dX10_spread_31 rfl rfl ?_
  refine s_getI (k := 0) (j := 1) E hL rfl rfl f_X10_278 dX10_spread_32 ?_
  intro v2 hL
  refine g_icmp_ge (tgt := 87) dX10_spread_35 (by decide) (fun q6 => ?_) (fun q6 => ?_)
  · rw [if_pos q6] at hL
    refine g_none 0 ?_
    refine g_none 1 ?_
    refine g_none 4 ?_
    exact Hke87 _ _ _ hL
  · rw [if_neg q6] at hL
    refine g_aload_n dX10_spread_38 rfl rfl ?_
    refine s_getR (j := 48) E rfl rfl f_X10_87 dX10_spread_39 ?_
    refine g_bipush (v := 8) dX10_spread_42 (by decide) ?_
    refine g_iload_n dX10_spread_44 rfl rfl ?_
    refine g_imul dX10_spread_45 ?_
    refine g_iload dX10_spread_46 rfl ?_
    refine g_iadd dX10_spread_48 ?_
    refine s_iald (k := 22) E hL rfl dX10_spread_49 ?_
    intro v3 hL
    refine g_istore (i := 5) dX10_spread_50 (by decide) rfl ?_
    refine g_iload dX10_spread_52 rfl ?_
    refine g_iconst (v := (-1)) dX10_spread_54 (by decide) ?_
    refine g_icmp_ne (tgt := 61) dX10_spread_55 (by decide) (fun q5 => ?_) (fun q5 => ?_)
    · rw [if_neg q5] at hL
      refine g_iload dX10_spread_61 rfl ?_
      refine g_iload_n dX10_spread_63 rfl rfl ?_
      refine g_icmp_le (tgt := 72) dX10_spread_64 (by decide) (fun q4 => ?_) (fun q4 => ?_)
      · rw [if_pos q4] at hL
        refine g_iload_n dX10_spread_72 rfl rfl ?_
        refine g_none 2 ?_
        exact J_X10_spread_73_ok E hL Hkh29 Hke87
      · rw [if_neg q4] at hL
        refine g_none 2 ?_
        refine g_iload dX10_spread_67 rfl ?_
        refine g_goto (tgt := 73) dX10_spread_69 (by decide) ?_
        exact J_X10_spread_73_ok E hL Hkh29 Hke87
    · rw [if_pos q5] at hL
      refine g_none 5 ?_
      refine g_goto (tgt := 81) dX10_spread_58 (by decide) ?_
      exact J_X10_spread_81_ok E hL Hkh29 Hke87
def P_X10_spread_29 (ke87 : Int32 → Int32 → wS → Option (Int32 × wS)) (n : Nat) (x1 : Int32) (x2 : Int32) (x3 : Int32) (x4 : Int32) (w : wS) : Option (Int32 × wS) :=
  xLoop (fun (kk : Int32 × Int32 × Int32 × Int32 × wS → Option (Int32 × wS)) σ => B_X10_spread_29 (fun x1 x2 x3 x4 w => kk (x1, x2, x3, x4, w)) ke87 (σ.1) (σ.2.1) (σ.2.2.1) (σ.2.2.2.1) (σ.2.2.2.2)) n (x1, x2, x3, x4, w)
theorem P_X10_spread_29_ok {G : aG} {Hf : wS → aH} {b : Nat} {ke87 : Int32 → Int32 → wS → Option (Int32 × wS)} {n : Nat} {x1 : Int32} {x2 : Int32} {x3 : Int32} {x4 : Int32} {w : wS} {r : Int32 × wS} (E : Emb Hf b 0 tbM) (hL : P_X10_spread_29 ke87 n x1 x2 x3 x4 w = some r) (Hke87 : ∀ (z0 : Int32) (z1 : Int32) (w : wS), ke87 z0 z1 w = some r → AG G M_X10_spread 87 [none, none, some (.int (z0)), some (.int (z1)), none, none] [] (Hf w) (.inl (some (.int r.1)), Hf r.2)) : AG G M_X10_spread 29 [some (.ref (b + 0)), some (.int (x1)), some (.int (x2)), some (.int (x3)), some (.int (x4)), none] [] (Hf w) (.inl (some (.int r.1)), Hf r.2) :=
  xLoop_ok (Q := fun (σ : Int32 × Int32 × Int32 × Int32 × wS) => AG G M_X10_spread 29 [some (.ref (b + 0)), some (.int (σ.1)), some (.int (σ.2.1)), some (.int (σ.2.2.1)), some (.int (σ.2.2.2.1)), none] [] (Hf σ.2.2.2.2) (.inl (some (.int r.1)), Hf r.2)) (fun kk hk σ hσ => B_X10_spread_29_ok E hσ (fun x1 x2 x3 x4 w h9 => hk (x1, x2, x3, x4, w) h9) Hke87) n (x1, x2, x3, x4, w) hL
def L_X10_spread (a1 : Int32) (w : wS) : Option (Int32 × wS) :=
  xB (xPut w 0 (0)) fun w7 => xB2 (L_X10_isDuty (a1) w7) fun v8 w9 => if v8 = 0 then some (0, w9) else xB (L_X10_goesTo (1) w9) fun w10 => P_X10_spread_29 (fun z11 z12 w13 => if z11 = (-1) then J_X10_spread_99  ((-1)) w13 else J_X10_spread_99  ((z11 - z12)) w13) 5000 (a1) ((-1)) (99999) (0) w10
set_option maxRecDepth 20000 in
theorem C_X10_spread {G : aG} {Hf : wS → aH} {b : Nat} {a1 : Int32} {w : wS} {r : Int32 × wS} (E : Emb Hf b 0 tbM) (hL : L_X10_spread a1 w = some r) : AC G M_X10_spread [.ref (b + 0), .int a1] (Hf w) (.inl (some (.int r.1)), Hf r.2) := by
  unfold L_X10_spread at hL
  refine AC.of (by decide) rfl (Nat.le_of_ble_eq_true rfl) ?_
  show AG G M_X10_spread 0 [some (.ref (b + 0)), some (.int (a1)), none, none, none, none] [] _ _
  refine g_aload_n dX10_spread_0 rfl rfl ?_
  refine g_iconst (v := 0) dX10_spread_1 (by decide) ?_
  refine s_putI (k := 0) (j := 0) E hL rfl rfl (by decide) fw_X10_120 rfl rfl dX10_spread_2 ?_
  intro w7 hL
  refine g_aload_n dX10_spread_5 rfl rfl ?_
  refine g_iload_n dX10_spread_6 rfl rfl ?_
  obtain ⟨v8, w9, hc, hL⟩ := xB2_some hL
  refine g_callV (M' := M_X10_isDuty) (as := [.int (a1)]) (v := some (.int (v8))) l_X10_376 kV_X10_isDuty (by decide) (C_X10_isDuty E hc) rfl (by have := E.1; omega) (E.2.1 _ 0 _ rfl) ⟨_, _, rfl⟩ (Nat.le_of_ble_eq_true rfl) dX10_spread_7 ?_
  refine g_if_ne (tgt := 15) dX10_spread_10 (by decide) (fun q15 => ?_) (fun q15 => ?_)
  · rw [if_neg q15] at hL
    refine g_aload_n dX10_spread_15 rfl rfl ?_
    refine g_iconst (v := 1) dX10_spread_16 (by decide) ?_
    obtain ⟨w10, hc, hL⟩ := xB_some hL
    refine g_callV (M' := M_X10_goesTo) (as := [.int (1)]) (v := none) l_X10_397 kV_X10_goesTo (by decide) (C_X10_goesTo E hc) rfl (by have := E.1; omega) (E.2.1 _ 0 _ rfl) ⟨_, _, rfl⟩ (Nat.le_of_ble_eq_true rfl) dX10_spread_17 ?_
    refine g_iconst (v := (-1)) dX10_spread_20 (by decide) ?_
    refine g_istore_n (i := 2) dX10_spread_21 rfl (by decide) rfl ?_
    refine g_ldcw (v := 99999) dX10_spread_22 n_X10_311 ?_
    refine g_istore_n (i := 3) dX10_spread_25 rfl (by decide) rfl ?_
    refine g_iconst (v := 0) dX10_spread_26 (by decide) ?_
    refine g_istore (i := 4) dX10_spread_27 (by decide) rfl ?_
    refine P_X10_spread_29_ok E hL ?_
    · intro z11 z12 w13 hL
      refine g_iload_n dX10_spread_87 rfl rfl ?_
      refine g_iconst (v := (-1)) dX10_spread_88 (by decide) ?_
      refine g_icmp_ne (tgt := 96) dX10_spread_89 (by decide) (fun q14 => ?_) (fun q14 => ?_)
      · rw [if_neg q14] at hL
        refine g_iload_n dX10_spread_96 rfl rfl ?_
        refine g_none 2 ?_
        refine g_iload_n dX10_spread_97 rfl rfl ?_
        refine g_none 3 ?_
        refine g_isub dX10_spread_98 ?_
        exact J_X10_spread_99_ok E hL 
      · rw [if_pos q14] at hL
        refine g_none 2 ?_
        refine g_none 3 ?_
        refine g_iconst (v := (-1)) dX10_spread_92 (by decide) ?_
        refine g_goto (tgt := 99) dX10_spread_93 (by decide) ?_
        exact J_X10_spread_99_ok E hL 
  · rw [if_pos q15] at hL
    refine g_none 0 ?_
    refine g_none 1 ?_
    refine g_iconst (v := 0) dX10_spread_13 (by decide) ?_
    obtain rfl := Option.some.inj hL
    exact g_iret rfl dX10_spread_14
def J_X10_ahead_101 (kh44 : Int32 → Int32 → Int32 → Int32 → wS → Option (Int32 × wS)) (ke109 : Int32 → wS → Option (Int32 × wS)) (x1 : Int32) (x2 : Int32) (x4 : Int32) (y0 : Int32) (y1 : Int32) (w : wS) : Option (Int32 × wS) :=
  kh44 (x1) (x2) ((y0 + y1)) ((x4 + 1)) w
set_option maxRecDepth 20000 in
theorem J_X10_ahead_101_ok {G : aG} {Hf : wS → aH} {b : Nat} {kh44 : Int32 → Int32 → Int32 → Int32 → wS → Option (Int32 × wS)} {ke109 : Int32 → wS → Option (Int32 × wS)} {x1 : Int32} {x2 : Int32} {x4 : Int32} {y0 : Int32} {y1 : Int32} {w : wS} {r : Int32 × wS} (E : Emb Hf b 0 tbM) (hL : J_X10_ahead_101 kh44 ke109 x1 x2 x4 y0 y1 w = some r) (Hkh44 : ∀ (z0 : Int32) (z1 : Int32) (z2 : Int32) (z3 : Int32) (w : wS), kh44 z0 z1 z2 z3 w = some r → AG G M_X10_ahead 44 [some (.ref (b + 0)), some (.int (z0)), some (.int (z1)), some (.int (z2)), some (.int (z3))] [] (Hf w) (.inl (some (.int r.1)), Hf r.2)) (Hke109 : ∀ (z0 : Int32) (w : wS), ke109 z0 w = some r → AG G M_X10_ahead 109 [none, none, none, some (.int (z0)), none] [] (Hf w) (.inl (some (.int r.1)), Hf r.2)) : AG G M_X10_ahead 101 [some (.ref (b + 0)), some (.int (x1)), some (.int (x2)), none, some (.int (x4))] [.int (y1), .int (y0)] (Hf w) (.inl (some (.int r.1)), Hf r.2) := by
  unfold J_X10_ahead_101 at hL
  refine g_iadd dX10_ahead_101 ?_
  refine g_istore_n (i := 3) dX10_ahead_102 rfl (by decide) rfl ?_
  refine g_iincV (v := (x4 + 1)) dX10_ahead_103 rfl rfl (by decide) rfl ?_
  refine g_goto (tgt := 44) dX10_ahead_106 (by decide) ?_
  exact Hkh44 _ _ _ _ _ hL
def J_X10_ahead_100 (kh44 : Int32 → Int32 → Int32 → Int32 → wS → Option (Int32 × wS)) (ke109 : Int32 → wS → Option (Int32 × wS)) (x1 : Int32) (x2 : Int32) (x4 : Int32) (y0 : Int32) (w : wS) : Option (Int32 × wS) :=
  J_X10_ahead_101 kh44 ke109 (x1) (x2) (x4) (y0) (0) w
set_option maxRecDepth 20000 in
theorem J_X10_ahead_100_ok {G : aG} {Hf : wS → aH} {b : Nat} {kh44 : Int32 → Int32 → Int32 → Int32 → wS → Option (Int32 × wS)} {ke109 : Int32 → wS → Option (Int32 × wS)} {x1 : Int32} {x2 : Int32} {x4 : Int32} {y0 : Int32} {w : wS} {r : Int32 × wS} (E : Emb Hf b 0 tbM) (hL : J_X10_ahead_100 kh44 ke109 x1 x2 x4 y0 w = some r) (Hkh44 : ∀ (z0 : Int32) (z1 : Int32) (z2 : Int32) (z3 : Int32) (w : wS), kh44 z0 z1 z2 z3 w = some r → AG G M_X10_ahead 44 [some (.ref (b + 0)), some (.int (z0)), some (.int (z1)), some (.int (z2)), some (.int (z3))] [] (Hf w) (.inl (some (.int r.1)), Hf r.2)) (Hke109 : ∀ (z0 : Int32) (w : wS), ke109 z0 w = some r → AG G M_X10_ahead 109 [none, none, none, some (.int (z0)), none] [] (Hf w) (.inl (some (.int r.1)), Hf r.2)) : AG G M_X10_ahead 100 [some (.ref (b + 0)), some (.int (x1)), some (.int (x2)), none, some (.int (x4))] [.int (y0)] (Hf w) (.inl (some (.int r.1)), Hf r.2) := by
  unfold J_X10_ahead_100 at hL
  refine g_iconst (v := 0) dX10_ahead_100 (by decide) ?_
  exact J_X10_ahead_101_ok E hL Hkh44 Hke109
def B_X10_ahead_44 (kh44 : Int32 → Int32 → Int32 → Int32 → wS → Option (Int32 × wS)) (ke109 : Int32 → wS → Option (Int32 × wS)) (x1 : Int32) (x2 : Int32) (x3 : Int32) (x4 : Int32) (w : wS) : Option (Int32 × wS) :=
  xB (xGet w 1) fun v1 => if v1 ≤ x4 then ke109 (x3) w else xB (xAld w 22 48 (((8 * x2) + x4))) fun v2 => if v2 = (-1) then J_X10_ahead_100 kh44 ke109 (x1) (x2) (x4) (x3) w else xB (xAld w 22 48 (((8 * x2) + x4))) fun v3 => xB (xAld w 22 48 (((8 * x2) + x1))) fun v4 => if v4 ≤ v3 then J_X10_ahead_100 kh44 ke109 (x1) (x2) (x4) (x3) w else J_X10_ahead_101 kh44 ke109 (x1) (x2) (x4) (x3) (1) w
set_option maxRecDepth 20000 in
theorem B_X10_ahead_44_ok {G : aG} {Hf : wS → aH} {b : Nat} {kh44 : Int32 → Int32 → Int32 → Int32 → wS → Option (Int32 × wS)} {ke109 : Int32 → wS → Option (Int32 × wS)} {x1 : Int32} {x2 : Int32} {x3 : Int32} {x4 : Int32} {w : wS} {r : Int32 × wS} (E : Emb Hf b 0 tbM) (hL : B_X10_ahead_44 kh44 ke109 x1 x2 x3 x4 w = some r) (Hkh44 : ∀ (z0 : Int32) (z1 : Int32) (z2 : Int32) (z3 : Int32) (w : wS), kh44 z0 z1 z2 z3 w = some r → AG G M_X10_ahead 44 [some (.ref (b + 0)), some (.int (z0)), some (.int (z1)), some (.int (z2)), some (.int (z3))] [] (Hf w) (.inl (some (.int r.1)), Hf r.2)) (Hke109 : ∀ (z0 : Int32) (w : wS), ke109 z0 w = some r → AG G M_X10_ahead 109 [none, none, none, some (.int (z0)), none] [] (Hf w) (.inl (some (.int r.1)), Hf r.2)) : AG G M_X10_ahead 44 [some (.ref (b + 0)), some (.int (x1)), some (.int (x2)), some (.int (x3)), some (.int (x4))] [] (Hf w) (.inl (some (.int r.1)), Hf r.2) := by
  unfold B_X10_ahead_44 at hL
  refine g_iload dX10_ahead_44 rfl ?_
  refine g_aload_n dX10_ahead_46 rfl rfl ?_
  refine s_getI (k := 0) (j := 1) E hL rfl rfl f_X10_278 dX10_ahead_47 ?_
  intro v1 hL
  refine g_icmp_ge (tgt := 109) dX10_ahead_50 (by decide) (fun q7 => ?_) (fun q7 => ?_)
  · rw [if_pos q7] at hL
    refine g_none 0 ?_
    refine g_none 1 ?_
    refine g_none 2 ?_
    refine g_none 4 ?_
    exact Hke109 _ _ hL
  · rw [if_neg q7] at hL
    refine g_iload_n dX10_ahead_53 rfl rfl ?_
    refine g_none 3 ?_
    refine g_aload_n dX10_ahead_54 rfl rfl ?_
    refine s_getR (j := 48) E rfl rfl f_X10_87 dX10_ahead_55 ?_
    refine g_bipush (v := 8) dX10_ahead_58 (by decide) ?_
    refine g_iload_n dX10_ahead_60 rfl rfl ?_
    refine g_imul dX10_ahead_61 ?_
    refine g_iload dX10_ahead_62 rfl ?_
    refine g_iadd dX10_ahead_64 ?_
    refine s_iald (k := 22) E hL rfl dX10_ahead_65 ?_
    intro v2 hL
    refine g_iconst (v := (-1)) dX10_ahead_66 (by decide) ?_
    refine g_icmp_eq (tgt := 100) dX10_ahead_67 (by decide) (fun q6 => ?_) (fun q6 => ?_)
    · rw [if_pos q6] at hL
      exact J_X10_ahead_100_ok E hL Hkh44 Hke109
    · rw [if_neg q6] at hL
      refine g_aload_n dX10_ahead_70 rfl rfl ?_
      refine s_getR (j := 48) E rfl rfl f_X10_87 dX10_ahead_71 ?_
      refine g_bipush (v := 8) dX10_ahead_74 (by decide) ?_
      refine g_iload_n dX10_ahead_76 rfl rfl ?_
      refine g_imul dX10_ahead_77 ?_
      refine g_iload dX10_ahead_78 rfl ?_
      refine g_iadd dX10_ahead_80 ?_
      refine s_iald (k := 22) E hL rfl dX10_ahead_81 ?_
      intro v3 hL
      refine g_aload_n dX10_ahead_82 rfl rfl ?_
      refine s_getR (j := 48) E rfl rfl f_X10_87 dX10_ahead_83 ?_
      refine g_bipush (v := 8) dX10_ahead_86 (by decide) ?_
      refine g_iload_n dX10_ahead_88 rfl rfl ?_
      refine g_imul dX10_ahead_89 ?_
      refine g_iload_n dX10_ahead_90 rfl rfl ?_
      refine g_iadd dX10_ahead_91 ?_
      refine s_iald (k := 22) E hL rfl dX10_ahead_92 ?_
      intro v4 hL
      refine g_icmp_ge (tgt := 100) dX10_ahead_93 (by decide) (fun q5 => ?_) (fun q5 => ?_)
      · rw [if_pos q5] at hL
        exact J_X10_ahead_100_ok E hL Hkh44 Hke109
      · rw [if_neg q5] at hL
        refine g_iconst (v := 1) dX10_ahead_96 (by decide) ?_
        refine g_goto (tgt := 101) dX10_ahead_97 (by decide) ?_
        exact J_X10_ahead_101_ok E hL Hkh44 Hke109
def P_X10_ahead_44 (ke109 : Int32 → wS → Option (Int32 × wS)) (n : Nat) (x1 : Int32) (x2 : Int32) (x3 : Int32) (x4 : Int32) (w : wS) : Option (Int32 × wS) :=
  xLoop (fun (kk : Int32 × Int32 × Int32 × Int32 × wS → Option (Int32 × wS)) σ => B_X10_ahead_44 (fun x1 x2 x3 x4 w => kk (x1, x2, x3, x4, w)) ke109 (σ.1) (σ.2.1) (σ.2.2.1) (σ.2.2.2.1) (σ.2.2.2.2)) n (x1, x2, x3, x4, w)
theorem P_X10_ahead_44_ok {G : aG} {Hf : wS → aH} {b : Nat} {ke109 : Int32 → wS → Option (Int32 × wS)} {n : Nat} {x1 : Int32} {x2 : Int32} {x3 : Int32} {x4 : Int32} {w : wS} {r : Int32 × wS} (E : Emb Hf b 0 tbM) (hL : P_X10_ahead_44 ke109 n x1 x2 x3 x4 w = some r) (Hke109 : ∀ (z0 : Int32) (w : wS), ke109 z0 w = some r → AG G M_X10_ahead 109 [none, none, none, some (.int (z0)), none] [] (Hf w) (.inl (some (.int r.1)), Hf r.2)) : AG G M_X10_ahead 44 [some (.ref (b + 0)), some (.int (x1)), some (.int (x2)), some (.int (x3)), some (.int (x4))] [] (Hf w) (.inl (some (.int r.1)), Hf r.2) :=
  xLoop_ok (Q := fun (σ : Int32 × Int32 × Int32 × Int32 × wS) => AG G M_X10_ahead 44 [some (.ref (b + 0)), some (.int (σ.1)), some (.int (σ.2.1)), some (.int (σ.2.2.1)), some (.int (σ.2.2.2.1))] [] (Hf σ.2.2.2.2) (.inl (some (.int r.1)), Hf r.2)) (fun kk hk σ hσ => B_X10_ahead_44_ok E hσ (fun x1 x2 x3 x4 w h9 => hk (x1, x2, x3, x4, w) h9) Hke109) n (x1, x2, x3, x4, w) hL
def J_X10_ahead_21 (w : wS) : Option (Int32 × wS) :=
  some (0, w)
set_option maxRecDepth 20000 in
theorem J_X10_ahead_21_ok {G : aG} {Hf : wS → aH} {b : Nat} {w : wS} {r : Int32 × wS} (E : Emb Hf b 0 tbM) (hL : J_X10_ahead_21   w = some r) : AG G M_X10_ahead 21 [none, none, none, none, none] [] (Hf w) (.inl (some (.int r.1)), Hf r.2) := by
  unfold J_X10_ahead_21 at hL
  refine g_iconst (v := 0) dX10_ahead_21 (by decide) ?_
  obtain rfl := Option.some.inj hL
  exact g_iret rfl dX10_ahead_22
def L_X10_ahead (a1 : Int32) (a2 : Int32) (w : wS) : Option (Int32 × wS) :=
  xB (xPut w 0 (0)) fun w8 => xB2 (L_X10_isPerson (a1) w8) fun v9 w10 => if v9 = 0 then J_X10_ahead_21   w10 else xB2 (L_X10_isDuty (a2) w10) fun v11 w12 => if v11 = 0 then J_X10_ahead_21   w12 else xB2 (L_X10_doesCome (0) (a1) w12) fun v13 w14 => if v13 = 0 then some ((-1), w14) else xB (L_X10_goesTo (1) w14) fun w15 => P_X10_ahead_44 (fun z16 w17 => some (z16, w17)) 5000 (a1) (a2) (0) (0) w15
set_option maxRecDepth 20000 in
theorem C_X10_ahead {G : aG} {Hf : wS → aH} {b : Nat} {a1 : Int32} {a2 : Int32} {w : wS} {r : Int32 × wS} (E : Emb Hf b 0 tbM) (hL : L_X10_ahead a1 a2 w = some r) : AC G M_X10_ahead [.ref (b + 0), .int a1, .int a2] (Hf w) (.inl (some (.int r.1)), Hf r.2) := by
  unfold L_X10_ahead at hL
  refine AC.of (by decide) rfl (Nat.le_of_ble_eq_true rfl) ?_
  show AG G M_X10_ahead 0 [some (.ref (b + 0)), some (.int (a1)), some (.int (a2)), none, none] [] _ _
  refine g_aload_n dX10_ahead_0 rfl rfl ?_
  refine g_iconst (v := 0) dX10_ahead_1 (by decide) ?_
  refine s_putI (k := 0) (j := 0) E hL rfl rfl (by decide) fw_X10_120 rfl rfl dX10_ahead_2 ?_
  intro w8 hL
  refine g_aload_n dX10_ahead_5 rfl rfl ?_
  refine g_iload_n dX10_ahead_6 rfl rfl ?_
  obtain ⟨v9, w10, hc, hL⟩ := xB2_some hL
  refine g_callV (M' := M_X10_isPerson) (as := [.int (a1)]) (v := some (.int (v9))) l_X10_370 kV_X10_isPerson (by decide) (C_X10_isPerson E hc) rfl (by have := E.1; omega) (E.2.1 _ 0 _ rfl) ⟨_, _, rfl⟩ (Nat.le_of_ble_eq_true rfl) dX10_ahead_7 ?_
  refine g_if_eq (tgt := 21) dX10_ahead_10 (by decide) (fun q20 => ?_) (fun q20 => ?_)
  · rw [if_pos q20] at hL
    refine g_none 0 ?_
    refine g_none 1 ?_
    refine g_none 2 ?_
    exact J_X10_ahead_21_ok E hL 
  · rw [if_neg q20] at hL
    refine g_aload_n dX10_ahead_13 rfl rfl ?_
    refine g_iload_n dX10_ahead_14 rfl rfl ?_
    obtain ⟨v11, w12, hc, hL⟩ := xB2_some hL
    refine g_callV (M' := M_X10_isDuty) (as := [.int (a2)]) (v := some (.int (v11))) l_X10_376 kV_X10_isDuty (by decide) (C_X10_isDuty E hc) rfl (by have := E.1; omega) (E.2.1 _ 0 _ rfl) ⟨_, _, rfl⟩ (Nat.le_of_ble_eq_true rfl) dX10_ahead_15 ?_
    refine g_if_ne (tgt := 23) dX10_ahead_18 (by decide) (fun q19 => ?_) (fun q19 => ?_)
    · rw [if_neg q19] at hL
      refine g_aload_n dX10_ahead_23 rfl rfl ?_
      refine g_iconst (v := 0) dX10_ahead_24 (by decide) ?_
      refine g_iload_n dX10_ahead_25 rfl rfl ?_
      obtain ⟨v13, w14, hc, hL⟩ := xB2_some hL
      refine g_callV (M' := M_X10_doesCome) (as := [.int (0), .int (a1)]) (v := some (.int (v13))) l_X10_340 kV_X10_doesCome (by decide) (C_X10_doesCome E hc) rfl (by have := E.1; omega) (E.2.1 _ 0 _ rfl) ⟨_, _, rfl⟩ (Nat.le_of_ble_eq_true rfl) dX10_ahead_26 ?_
      refine g_if_ne (tgt := 34) dX10_ahead_29 (by decide) (fun q18 => ?_) (fun q18 => ?_)
      · rw [if_neg q18] at hL
        refine g_aload_n dX10_ahead_34 rfl rfl ?_
        refine g_iconst (v := 1) dX10_ahead_35 (by decide) ?_
        obtain ⟨w15, hc, hL⟩ := xB_some hL
        refine g_callV (M' := M_X10_goesTo) (as := [.int (1)]) (v := none) l_X10_397 kV_X10_goesTo (by decide) (C_X10_goesTo E hc) rfl (by have := E.1; omega) (E.2.1 _ 0 _ rfl) ⟨_, _, rfl⟩ (Nat.le_of_ble_eq_true rfl) dX10_ahead_36 ?_
        refine g_iconst (v := 0) dX10_ahead_39 (by decide) ?_
        refine g_istore_n (i := 3) dX10_ahead_40 rfl (by decide) rfl ?_
        refine g_iconst (v := 0) dX10_ahead_41 (by decide) ?_
        refine g_istore (i := 4) dX10_ahead_42 (by decide) rfl ?_
        refine P_X10_ahead_44_ok E hL ?_
        · intro z16 w17 hL
          refine g_iload_n dX10_ahead_109 rfl rfl ?_
          refine g_none 3 ?_
          obtain rfl := Option.some.inj hL
          exact g_iret rfl dX10_ahead_110
      · rw [if_pos q18] at hL
        refine g_none 0 ?_
        refine g_none 1 ?_
        refine g_none 2 ?_
        refine g_iconst (v := (-1)) dX10_ahead_32 (by decide) ?_
        obtain rfl := Option.some.inj hL
        exact g_iret rfl dX10_ahead_33
    · rw [if_pos q19] at hL
      refine g_none 0 ?_
      refine g_none 1 ?_
      refine g_none 2 ?_
      exact J_X10_ahead_21_ok E hL 
def J_X10_late_21 (w : wS) : Option (Int32 × wS) :=
  some (0, w)
set_option maxRecDepth 20000 in
theorem J_X10_late_21_ok {G : aG} {Hf : wS → aH} {b : Nat} {w : wS} {r : Int32 × wS} (E : Emb Hf b 0 tbM) (hL : J_X10_late_21   w = some r) : AG G M_X10_late 21 [none, none, none] [] (Hf w) (.inl (some (.int r.1)), Hf r.2) := by
  unfold J_X10_late_21 at hL
  refine g_iconst (v := 0) dX10_late_21 (by decide) ?_
  obtain rfl := Option.some.inj hL
  exact g_iret rfl dX10_late_22
def L_X10_late (a1 : Int32) (a2 : Int32) (w : wS) : Option (Int32 × wS) :=
  xB (xPut w 0 (0)) fun w1 => xB2 (L_X10_isPerson (a1) w1) fun v2 w3 => if v2 = 0 then J_X10_late_21   w3 else xB2 (L_X10_isDuty (a2) w3) fun v4 w5 => if v4 = 0 then J_X10_late_21   w5 else xB2 (L_X10_doesCome (0) (a1) w5) fun v6 w7 => if v6 = 0 then some ((-1), w7) else xB (L_X10_goesTo (1) w7) fun w8 => xB (xAld w8 22 48 (((8 * a2) + a1))) fun v9 => xB (xAld w8 16 66 ((27 + a2))) fun v10 => xB (L_X10_bounded ((v9 - v10)) (0) (999)) fun v11 => some (v11, w8)
set_option maxRecDepth 20000 in
theorem C_X10_late {G : aG} {Hf : wS → aH} {b : Nat} {a1 : Int32} {a2 : Int32} {w : wS} {r : Int32 × wS} (E : Emb Hf b 0 tbM) (hL : L_X10_late a1 a2 w = some r) : AC G M_X10_late [.ref (b + 0), .int a1, .int a2] (Hf w) (.inl (some (.int r.1)), Hf r.2) := by
  unfold L_X10_late at hL
  refine AC.of (by decide) rfl (Nat.le_of_ble_eq_true rfl) ?_
  show AG G M_X10_late 0 [some (.ref (b + 0)), some (.int (a1)), some (.int (a2))] [] _ _
  refine g_aload_n dX10_late_0 rfl rfl ?_
  refine g_iconst (v := 0) dX10_late_1 (by decide) ?_
  refine s_putI (k := 0) (j := 0) E hL rfl rfl (by decide) fw_X10_120 rfl rfl dX10_late_2 ?_
  intro w1 hL
  refine g_aload_n dX10_late_5 rfl rfl ?_
  refine g_iload_n dX10_late_6 rfl rfl ?_
  obtain ⟨v2, w3, hc, hL⟩ := xB2_some hL
  refine g_callV (M' := M_X10_isPerson) (as := [.int (a1)]) (v := some (.int (v2))) l_X10_370 kV_X10_isPerson (by decide) (C_X10_isPerson E hc) rfl (by have := E.1; omega) (E.2.1 _ 0 _ rfl) ⟨_, _, rfl⟩ (Nat.le_of_ble_eq_true rfl) dX10_late_7 ?_
  refine g_if_eq (tgt := 21) dX10_late_10 (by decide) (fun q14 => ?_) (fun q14 => ?_)
  · rw [if_pos q14] at hL
    refine g_none 0 ?_
    refine g_none 1 ?_
    refine g_none 2 ?_
    exact J_X10_late_21_ok E hL 
  · rw [if_neg q14] at hL
    refine g_aload_n dX10_late_13 rfl rfl ?_
    refine g_iload_n dX10_late_14 rfl rfl ?_
    obtain ⟨v4, w5, hc, hL⟩ := xB2_some hL
    refine g_callV (M' := M_X10_isDuty) (as := [.int (a2)]) (v := some (.int (v4))) l_X10_376 kV_X10_isDuty (by decide) (C_X10_isDuty E hc) rfl (by have := E.1; omega) (E.2.1 _ 0 _ rfl) ⟨_, _, rfl⟩ (Nat.le_of_ble_eq_true rfl) dX10_late_15 ?_
    refine g_if_ne (tgt := 23) dX10_late_18 (by decide) (fun q13 => ?_) (fun q13 => ?_)
    · rw [if_neg q13] at hL
      refine g_aload_n dX10_late_23 rfl rfl ?_
      refine g_iconst (v := 0) dX10_late_24 (by decide) ?_
      refine g_iload_n dX10_late_25 rfl rfl ?_
      obtain ⟨v6, w7, hc, hL⟩ := xB2_some hL
      refine g_callV (M' := M_X10_doesCome) (as := [.int (0), .int (a1)]) (v := some (.int (v6))) l_X10_340 kV_X10_doesCome (by decide) (C_X10_doesCome E hc) rfl (by have := E.1; omega) (E.2.1 _ 0 _ rfl) ⟨_, _, rfl⟩ (Nat.le_of_ble_eq_true rfl) dX10_late_26 ?_
      refine g_if_ne (tgt := 34) dX10_late_29 (by decide) (fun q12 => ?_) (fun q12 => ?_)
      · rw [if_neg q12] at hL
        refine g_aload_n dX10_late_34 rfl rfl ?_
        refine g_iconst (v := 1) dX10_late_35 (by decide) ?_
        obtain ⟨w8, hc, hL⟩ := xB_some hL
        refine g_callV (M' := M_X10_goesTo) (as := [.int (1)]) (v := none) l_X10_397 kV_X10_goesTo (by decide) (C_X10_goesTo E hc) rfl (by have := E.1; omega) (E.2.1 _ 0 _ rfl) ⟨_, _, rfl⟩ (Nat.le_of_ble_eq_true rfl) dX10_late_36 ?_
        refine g_aload_n dX10_late_39 rfl rfl ?_
        refine s_getR (j := 48) E rfl rfl f_X10_87 dX10_late_40 ?_
        refine g_bipush (v := 8) dX10_late_43 (by decide) ?_
        refine g_iload_n dX10_late_45 rfl rfl ?_
        refine g_imul dX10_late_46 ?_
        refine g_iload_n dX10_late_47 rfl rfl ?_
        refine g_none 1 ?_
        refine g_iadd dX10_late_48 ?_
        refine s_iald (k := 22) E hL rfl dX10_late_49 ?_
        intro v9 hL
        refine g_aload_n dX10_late_50 rfl rfl ?_
        refine g_none 0 ?_
        refine s_getR (j := 41) E rfl rfl f_X10_69 dX10_late_51 ?_
        refine g_bipush (v := 27) dX10_late_54 (by decide) ?_
        refine g_iload_n dX10_late_56 rfl rfl ?_
        refine g_none 2 ?_
        refine g_iadd dX10_late_57 ?_
        refine s_iald (k := 16) E hL rfl dX10_late_58 ?_
        intro v10 hL
        refine g_isub dX10_late_59 ?_
        refine g_iconst (v := 0) dX10_late_60 (by decide) ?_
        refine g_sipush (v := 999) dX10_late_61 (by decide) ?_
        obtain ⟨v11, hc, hL⟩ := xB_some hL
        refine g_callS (M' := M_X10_bounded) (as := [.int ((v9 - v10)), .int (0), .int (999)]) (v := some (.int (v11))) l_X10_312 kS_X10_bounded (by decide) (C_X10_bounded hc) rfl (Nat.le_of_ble_eq_true rfl) dX10_late_64 ?_
        obtain rfl := Option.some.inj hL
        exact g_iret rfl dX10_late_67
      · rw [if_pos q12] at hL
        refine g_none 0 ?_
        refine g_none 1 ?_
        refine g_none 2 ?_
        refine g_iconst (v := (-1)) dX10_late_32 (by decide) ?_
        obtain rfl := Option.some.inj hL
        exact g_iret rfl dX10_late_33
    · rw [if_pos q13] at hL
      refine g_none 0 ?_
      refine g_none 1 ?_
      refine g_none 2 ?_
      exact J_X10_late_21_ok E hL 
def J_X10_loses_50 (kh24 : Int32 → Int32 → Int32 → wS → Option (Int32 × wS)) (ke58 : Int32 → wS → Option (Int32 × wS)) (x1 : Int32) (x3 : Int32) (y0 : Int32) (y1 : Int32) (w : wS) : Option (Int32 × wS) :=
  kh24 (x1) ((y0 ||| y1)) ((x3 + 1)) w
set_option maxRecDepth 20000 in
theorem J_X10_loses_50_ok {G : aG} {Hf : wS → aH} {b : Nat} {kh24 : Int32 → Int32 → Int32 → wS → Option (Int32 × wS)} {ke58 : Int32 → wS → Option (Int32 × wS)} {x1 : Int32} {x3 : Int32} {y0 : Int32} {y1 : Int32} {w : wS} {r : Int32 × wS} (E : Emb Hf b 0 tbM) (hL : J_X10_loses_50 kh24 ke58 x1 x3 y0 y1 w = some r) (Hkh24 : ∀ (z0 : Int32) (z1 : Int32) (z2 : Int32) (w : wS), kh24 z0 z1 z2 w = some r → AG G M_X10_loses 24 [some (.ref (b + 0)), some (.int (z0)), some (.int (z1)), some (.int (z2))] [] (Hf w) (.inl (some (.int r.1)), Hf r.2)) (Hke58 : ∀ (z0 : Int32) (w : wS), ke58 z0 w = some r → AG G M_X10_loses 58 [none, none, some (.int (z0)), none] [] (Hf w) (.inl (some (.int r.1)), Hf r.2)) : AG G M_X10_loses 50 [some (.ref (b + 0)), some (.int (x1)), none, some (.int (x3))] [.int (y1), .int (y0)] (Hf w) (.inl (some (.int r.1)), Hf r.2) := by
  unfold J_X10_loses_50 at hL
  refine g_ior dX10_loses_50 ?_
  refine g_istore_n (i := 2) dX10_loses_51 rfl (by decide) rfl ?_
  refine g_iincV (v := (x3 + 1)) dX10_loses_52 rfl rfl (by decide) rfl ?_
  refine g_goto (tgt := 24) dX10_loses_55 (by decide) ?_
  exact Hkh24 _ _ _ _ hL
def B_X10_loses_24 (kh24 : Int32 → Int32 → Int32 → wS → Option (Int32 × wS)) (ke58 : Int32 → wS → Option (Int32 × wS)) (x1 : Int32) (x2 : Int32) (x3 : Int32) (w : wS) : Option (Int32 × wS) :=
  xB (xGet w 2) fun v1 => if v1 ≤ x3 then ke58 (x2) w else xB (xAld w 21 6 (x3)) fun v2 => if v2 = x1 then J_X10_loses_50 kh24 ke58 (x1) (x3) (x2) ((1 <<< (x3 &&& 31))) w else J_X10_loses_50 kh24 ke58 (x1) (x3) (x2) (0) w
set_option maxRecDepth 20000 in
theorem B_X10_loses_24_ok {G : aG} {Hf : wS → aH} {b : Nat} {kh24 : Int32 → Int32 → Int32 → wS → Option (Int32 × wS)} {ke58 : Int32 → wS → Option (Int32 × wS)} {x1 : Int32} {x2 : Int32} {x3 : Int32} {w : wS} {r : Int32 × wS} (E : Emb Hf b 0 tbM) (hL : B_X10_loses_24 kh24 ke58 x1 x2 x3 w = some r) (Hkh24 : ∀ (z0 : Int32) (z1 : Int32) (z2 : Int32) (w : wS), kh24 z0 z1 z2 w = some r → AG G M_X10_loses 24 [some (.ref (b + 0)), some (.int (z0)), some (.int (z1)), some (.int (z2))] [] (Hf w) (.inl (some (.int r.1)), Hf r.2)) (Hke58 : ∀ (z0 : Int32) (w : wS), ke58 z0 w = some r → AG G M_X10_loses 58 [none, none, some (.int (z0)), none] [] (Hf w) (.inl (some (.int r.1)), Hf r.2)) : AG G M_X10_loses 24 [some (.ref (b + 0)), some (.int (x1)), some (.int (x2)), some (.int (x3))] [] (Hf w) (.inl (some (.int r.1)), Hf r.2) := by
  unfold B_X10_loses_24 at hL
  refine g_iload_n dX10_loses_24 rfl rfl ?_
  refine g_aload_n dX10_loses_25 rfl rfl ?_
  refine s_getI (k := 0) (j := 2) E hL rfl rfl f_X10_281 dX10_loses_26 ?_
  intro v1 hL
  refine g_icmp_ge (tgt := 58) dX10_loses_29 (by decide) (fun q4 => ?_) (fun q4 => ?_)
  · rw [if_pos q4] at hL
    refine g_none 0 ?_
    refine g_none 1 ?_
    refine g_none 3 ?_
    exact Hke58 _ _ hL
  · rw [if_neg q4] at hL
    refine g_iload_n dX10_loses_32 rfl rfl ?_
    refine g_none 2 ?_
    refine g_aload_n dX10_loses_33 rfl rfl ?_
    refine s_getR (j := 47) E rfl rfl f_X10_84 dX10_loses_34 ?_
    refine g_iload_n dX10_loses_37 rfl rfl ?_
    refine s_iald (k := 21) E hL rfl dX10_loses_38 ?_
    intro v2 hL
    refine g_iload_n dX10_loses_39 rfl rfl ?_
    refine g_icmp_ne (tgt := 49) dX10_loses_40 (by decide) (fun q3 => ?_) (fun q3 => ?_)
    · rw [if_neg q3] at hL
      refine g_iconst (v := 0) dX10_loses_49 (by decide) ?_
      exact J_X10_loses_50_ok E hL Hkh24 Hke58
    · rw [if_pos q3] at hL
      refine g_iconst (v := 1) dX10_loses_43 (by decide) ?_
      refine g_iload_n dX10_loses_44 rfl rfl ?_
      refine g_ishl dX10_loses_45 ?_
      refine g_goto (tgt := 50) dX10_loses_46 (by decide) ?_
      exact J_X10_loses_50_ok E hL Hkh24 Hke58
def P_X10_loses_24 (ke58 : Int32 → wS → Option (Int32 × wS)) (n : Nat) (x1 : Int32) (x2 : Int32) (x3 : Int32) (w : wS) : Option (Int32 × wS) :=
  xLoop (fun (kk : Int32 × Int32 × Int32 × wS → Option (Int32 × wS)) σ => B_X10_loses_24 (fun x1 x2 x3 w => kk (x1, x2, x3, w)) ke58 (σ.1) (σ.2.1) (σ.2.2.1) (σ.2.2.2)) n (x1, x2, x3, w)
theorem P_X10_loses_24_ok {G : aG} {Hf : wS → aH} {b : Nat} {ke58 : Int32 → wS → Option (Int32 × wS)} {n : Nat} {x1 : Int32} {x2 : Int32} {x3 : Int32} {w : wS} {r : Int32 × wS} (E : Emb Hf b 0 tbM) (hL : P_X10_loses_24 ke58 n x1 x2 x3 w = some r) (Hke58 : ∀ (z0 : Int32) (w : wS), ke58 z0 w = some r → AG G M_X10_loses 58 [none, none, some (.int (z0)), none] [] (Hf w) (.inl (some (.int r.1)), Hf r.2)) : AG G M_X10_loses 24 [some (.ref (b + 0)), some (.int (x1)), some (.int (x2)), some (.int (x3))] [] (Hf w) (.inl (some (.int r.1)), Hf r.2) :=
  xLoop_ok (Q := fun (σ : Int32 × Int32 × Int32 × wS) => AG G M_X10_loses 24 [some (.ref (b + 0)), some (.int (σ.1)), some (.int (σ.2.1)), some (.int (σ.2.2.1))] [] (Hf σ.2.2.2) (.inl (some (.int r.1)), Hf r.2)) (fun kk hk σ hσ => B_X10_loses_24_ok E hσ (fun x1 x2 x3 w h9 => hk (x1, x2, x3, w) h9) Hke58) n (x1, x2, x3, w) hL
def L_X10_loses (a1 : Int32) (w : wS) : Option (Int32 × wS) :=
  xB (xPut w 0 (0)) fun w5 => xB2 (L_X10_isPerson (a1) w5) fun v6 w7 => if v6 = 0 then some (0, w7) else xB (L_X10_goesTo (1) w7) fun w8 => P_X10_loses_24 (fun z9 w10 => some (z9, w10)) 5000 (a1) (0) (0) w8
set_option maxRecDepth 20000 in
theorem C_X10_loses {G : aG} {Hf : wS → aH} {b : Nat} {a1 : Int32} {w : wS} {r : Int32 × wS} (E : Emb Hf b 0 tbM) (hL : L_X10_loses a1 w = some r) : AC G M_X10_loses [.ref (b + 0), .int a1] (Hf w) (.inl (some (.int r.1)), Hf r.2) := by
  unfold L_X10_loses at hL
  refine AC.of (by decide) rfl (Nat.le_of_ble_eq_true rfl) ?_
  show AG G M_X10_loses 0 [some (.ref (b + 0)), some (.int (a1)), none, none] [] _ _
  refine g_aload_n dX10_loses_0 rfl rfl ?_
  refine g_iconst (v := 0) dX10_loses_1 (by decide) ?_
  refine s_putI (k := 0) (j := 0) E hL rfl rfl (by decide) fw_X10_120 rfl rfl dX10_loses_2 ?_
  intro w5 hL
  refine g_aload_n dX10_loses_5 rfl rfl ?_
  refine g_iload_n dX10_loses_6 rfl rfl ?_
  obtain ⟨v6, w7, hc, hL⟩ := xB2_some hL
  refine g_callV (M' := M_X10_isPerson) (as := [.int (a1)]) (v := some (.int (v6))) l_X10_370 kV_X10_isPerson (by decide) (C_X10_isPerson E hc) rfl (by have := E.1; omega) (E.2.1 _ 0 _ rfl) ⟨_, _, rfl⟩ (Nat.le_of_ble_eq_true rfl) dX10_loses_7 ?_
  refine g_if_ne (tgt := 15) dX10_loses_10 (by decide) (fun q11 => ?_) (fun q11 => ?_)
  · rw [if_neg q11] at hL
    refine g_aload_n dX10_loses_15 rfl rfl ?_
    refine g_iconst (v := 1) dX10_loses_16 (by decide) ?_
    obtain ⟨w8, hc, hL⟩ := xB_some hL
    refine g_callV (M' := M_X10_goesTo) (as := [.int (1)]) (v := none) l_X10_397 kV_X10_goesTo (by decide) (C_X10_goesTo E hc) rfl (by have := E.1; omega) (E.2.1 _ 0 _ rfl) ⟨_, _, rfl⟩ (Nat.le_of_ble_eq_true rfl) dX10_loses_17 ?_
    refine g_iconst (v := 0) dX10_loses_20 (by decide) ?_
    refine g_istore_n (i := 2) dX10_loses_21 rfl (by decide) rfl ?_
    refine g_iconst (v := 0) dX10_loses_22 (by decide) ?_
    refine g_istore_n (i := 3) dX10_loses_23 rfl (by decide) rfl ?_
    refine P_X10_loses_24_ok E hL ?_
    · intro z9 w10 hL
      refine g_iload_n dX10_loses_58 rfl rfl ?_
      refine g_none 2 ?_
      obtain rfl := Option.some.inj hL
      exact g_iret rfl dX10_loses_59
  · rw [if_pos q11] at hL
    refine g_none 0 ?_
    refine g_none 1 ?_
    refine g_iconst (v := 0) dX10_loses_13 (by decide) ?_
    obtain rfl := Option.some.inj hL
    exact g_iret rfl dX10_loses_14
def J_X10_nearest_49 (kh19 : Int32 → Int32 → Int32 → wS → Option (Int32 × wS)) (ke55 : Int32 → wS → Option (Int32 × wS)) (x1 : Int32) (x2 : Int32) (x3 : Int32) (w : wS) : Option (Int32 × wS) :=
  kh19 (x1) (x2) ((x3 + 1)) w
set_option maxRecDepth 20000 in
theorem J_X10_nearest_49_ok {G : aG} {Hf : wS → aH} {b : Nat} {kh19 : Int32 → Int32 → Int32 → wS → Option (Int32 × wS)} {ke55 : Int32 → wS → Option (Int32 × wS)} {x1 : Int32} {x2 : Int32} {x3 : Int32} {w : wS} {r : Int32 × wS} (E : Emb Hf b 0 tbM) (hL : J_X10_nearest_49 kh19 ke55 x1 x2 x3 w = some r) (Hkh19 : ∀ (z0 : Int32) (z1 : Int32) (z2 : Int32) (w : wS), kh19 z0 z1 z2 w = some r → AG G M_X10_nearest 19 [some (.ref (b + 0)), some (.int (z0)), some (.int (z1)), some (.int (z2))] [] (Hf w) (.inl (some (.int r.1)), Hf r.2)) (Hke55 : ∀ (z0 : Int32) (w : wS), ke55 z0 w = some r → AG G M_X10_nearest 55 [none, none, some (.int (z0)), none] [] (Hf w) (.inl (some (.int r.1)), Hf r.2)) : AG G M_X10_nearest 49 [some (.ref (b + 0)), some (.int (x1)), some (.int (x2)), some (.int (x3))] [] (Hf w) (.inl (some (.int r.1)), Hf r.2) := by
  unfold J_X10_nearest_49 at hL
  refine g_iincV (v := (x3 + 1)) dX10_nearest_49 rfl rfl (by decide) rfl ?_
  refine g_goto (tgt := 19) dX10_nearest_52 (by decide) ?_
  exact Hkh19 _ _ _ _ hL
def J_X10_nearest_47 (kh19 : Int32 → Int32 → Int32 → wS → Option (Int32 × wS)) (ke55 : Int32 → wS → Option (Int32 × wS)) (x1 : Int32) (x3 : Int32) (w : wS) : Option (Int32 × wS) :=
  J_X10_nearest_49 kh19 ke55 (x1) (x3) (x3) w
set_option maxRecDepth 20000 in
theorem J_X10_nearest_47_ok {G : aG} {Hf : wS → aH} {b : Nat} {kh19 : Int32 → Int32 → Int32 → wS → Option (Int32 × wS)} {ke55 : Int32 → wS → Option (Int32 × wS)} {x1 : Int32} {x3 : Int32} {w : wS} {r : Int32 × wS} (E : Emb Hf b 0 tbM) (hL : J_X10_nearest_47 kh19 ke55 x1 x3 w = some r) (Hkh19 : ∀ (z0 : Int32) (z1 : Int32) (z2 : Int32) (w : wS), kh19 z0 z1 z2 w = some r → AG G M_X10_nearest 19 [some (.ref (b + 0)), some (.int (z0)), some (.int (z1)), some (.int (z2))] [] (Hf w) (.inl (some (.int r.1)), Hf r.2)) (Hke55 : ∀ (z0 : Int32) (w : wS), ke55 z0 w = some r → AG G M_X10_nearest 55 [none, none, some (.int (z0)), none] [] (Hf w) (.inl (some (.int r.1)), Hf r.2)) : AG G M_X10_nearest 47 [some (.ref (b + 0)), some (.int (x1)), none, some (.int (x3))] [] (Hf w) (.inl (some (.int r.1)), Hf r.2) := by
  unfold J_X10_nearest_47 at hL
  refine g_iload_n dX10_nearest_47 rfl rfl ?_
  refine g_istore_n (i := 2) dX10_nearest_48 rfl (by decide) rfl ?_
  exact J_X10_nearest_49_ok E hL Hkh19 Hke55
def B_X10_nearest_19 (kh19 : Int32 → Int32 → Int32 → wS → Option (Int32 × wS)) (ke55 : Int32 → wS → Option (Int32 × wS)) (x1 : Int32) (x2 : Int32) (x3 : Int32) (w : wS) : Option (Int32 × wS) :=
  xB (xGet w 2) fun v1 => if v1 ≤ x3 then ke55 (x2) w else if x2 = (-1) then J_X10_nearest_47 kh19 ke55 (x1) (x3) w else xB2 (L_X10_farOf (x1) (x3) w) fun v2 w3 => xB2 (L_X10_farOf (x1) (x2) w3) fun v4 w5 => if v4 ≤ v2 then J_X10_nearest_49 kh19 ke55 (x1) (x2) (x3) w5 else J_X10_nearest_47 kh19 ke55 (x1) (x3) w5
set_option maxRecDepth 20000 in
theorem B_X10_nearest_19_ok {G : aG} {Hf : wS → aH} {b : Nat} {kh19 : Int32 → Int32 → Int32 → wS → Option (Int32 × wS)} {ke55 : Int32 → wS → Option (Int32 × wS)} {x1 : Int32} {x2 : Int32} {x3 : Int32} {w : wS} {r : Int32 × wS} (E : Emb Hf b 0 tbM) (hL : B_X10_nearest_19 kh19 ke55 x1 x2 x3 w = some r) (Hkh19 : ∀ (z0 : Int32) (z1 : Int32) (z2 : Int32) (w : wS), kh19 z0 z1 z2 w = some r → AG G M_X10_nearest 19 [some (.ref (b + 0)), some (.int (z0)), some (.int (z1)), some (.int (z2))] [] (Hf w) (.inl (some (.int r.1)), Hf r.2)) (Hke55 : ∀ (z0 : Int32) (w : wS), ke55 z0 w = some r → AG G M_X10_nearest 55 [none, none, some (.int (z0)), none] [] (Hf w) (.inl (some (.int r.1)), Hf r.2)) : AG G M_X10_nearest 19 [some (.ref (b + 0)), some (.int (x1)), some (.int (x2)), some (.int (x3))] [] (Hf w) (.inl (some (.int r.1)), Hf r.2) := by
  unfold B_X10_nearest_19 at hL
  refine g_iload_n dX10_nearest_19 rfl rfl ?_
  refine g_aload_n dX10_nearest_20 rfl rfl ?_
  refine s_getI (k := 0) (j := 2) E hL rfl rfl f_X10_281 dX10_nearest_21 ?_
  intro v1 hL
  refine g_icmp_ge (tgt := 55) dX10_nearest_24 (by decide) (fun q8 => ?_) (fun q8 => ?_)
  · rw [if_pos q8] at hL
    refine g_none 0 ?_
    refine g_none 1 ?_
    refine g_none 3 ?_
    exact Hke55 _ _ hL
  · rw [if_neg q8] at hL
    refine g_iload_n dX10_nearest_27 rfl rfl ?_
    refine g_iconst (v := (-1)) dX10_nearest_28 (by decide) ?_
    refine g_icmp_eq (tgt := 47) dX10_nearest_29 (by decide) (fun q7 => ?_) (fun q7 => ?_)
    · rw [if_pos q7] at hL
      refine g_none 2 ?_
      exact J_X10_nearest_47_ok E hL Hkh19 Hke55
    · rw [if_neg q7] at hL
      refine g_aload_n dX10_nearest_32 rfl rfl ?_
      refine g_iload_n dX10_nearest_33 rfl rfl ?_
      refine g_iload_n dX10_nearest_34 rfl rfl ?_
      obtain ⟨v2, w3, hc, hL⟩ := xB2_some hL
      refine g_callV (M' := M_X10_farOf) (as := [.int (x1), .int (x3)]) (v := some (.int (v2))) l_X10_305 kV_X10_farOf (by decide) (C_X10_farOf E hc) rfl (by have := E.1; omega) (E.2.1 _ 0 _ rfl) ⟨_, _, rfl⟩ (Nat.le_of_ble_eq_true rfl) dX10_nearest_35 ?_
      refine g_aload_n dX10_nearest_38 rfl rfl ?_
      refine g_iload_n dX10_nearest_39 rfl rfl ?_
      refine g_iload_n dX10_nearest_40 rfl rfl ?_
      obtain ⟨v4, w5, hc, hL⟩ := xB2_some hL
      refine g_callV (M' := M_X10_farOf) (as := [.int (x1), .int (x2)]) (v := some (.int (v4))) l_X10_305 kV_X10_farOf (by decide) (C_X10_farOf E hc) rfl (by have := E.1; omega) (E.2.1 _ 0 _ rfl) ⟨_, _, rfl⟩ (Nat.le_of_ble_eq_true rfl) dX10_nearest_41 ?_
      refine g_icmp_ge (tgt := 49) dX10_nearest_44 (by decide) (fun q6 => ?_) (fun q6 => ?_)
      · rw [if_pos q6] at hL
        exact J_X10_nearest_49_ok E hL Hkh19 Hke55
      · rw [if_neg q6] at hL
        refine g_none 2 ?_
        exact J_X10_nearest_47_ok E hL Hkh19 Hke55
def P_X10_nearest_19 (ke55 : Int32 → wS → Option (Int32 × wS)) (n : Nat) (x1 : Int32) (x2 : Int32) (x3 : Int32) (w : wS) : Option (Int32 × wS) :=
  xLoop (fun (kk : Int32 × Int32 × Int32 × wS → Option (Int32 × wS)) σ => B_X10_nearest_19 (fun x1 x2 x3 w => kk (x1, x2, x3, w)) ke55 (σ.1) (σ.2.1) (σ.2.2.1) (σ.2.2.2)) n (x1, x2, x3, w)
theorem P_X10_nearest_19_ok {G : aG} {Hf : wS → aH} {b : Nat} {ke55 : Int32 → wS → Option (Int32 × wS)} {n : Nat} {x1 : Int32} {x2 : Int32} {x3 : Int32} {w : wS} {r : Int32 × wS} (E : Emb Hf b 0 tbM) (hL : P_X10_nearest_19 ke55 n x1 x2 x3 w = some r) (Hke55 : ∀ (z0 : Int32) (w : wS), ke55 z0 w = some r → AG G M_X10_nearest 55 [none, none, some (.int (z0)), none] [] (Hf w) (.inl (some (.int r.1)), Hf r.2)) : AG G M_X10_nearest 19 [some (.ref (b + 0)), some (.int (x1)), some (.int (x2)), some (.int (x3))] [] (Hf w) (.inl (some (.int r.1)), Hf r.2) :=
  xLoop_ok (Q := fun (σ : Int32 × Int32 × Int32 × wS) => AG G M_X10_nearest 19 [some (.ref (b + 0)), some (.int (σ.1)), some (.int (σ.2.1)), some (.int (σ.2.2.1))] [] (Hf σ.2.2.2) (.inl (some (.int r.1)), Hf r.2)) (fun kk hk σ hσ => B_X10_nearest_19_ok E hσ (fun x1 x2 x3 w h9 => hk (x1, x2, x3, w) h9) Hke55) n (x1, x2, x3, w) hL
def L_X10_nearest (a1 : Int32) (w : wS) : Option (Int32 × wS) :=
  xB (xPut w 0 (0)) fun w9 => xB2 (L_X10_isPerson (a1) w9) fun v10 w11 => if v10 = 0 then some (0, w11) else P_X10_nearest_19 (fun z12 w13 => some (z12, w13)) 5000 (a1) ((-1)) (0) w11
set_option maxRecDepth 20000 in
theorem C_X10_nearest {G : aG} {Hf : wS → aH} {b : Nat} {a1 : Int32} {w : wS} {r : Int32 × wS} (E : Emb Hf b 0 tbM) (hL : L_X10_nearest a1 w = some r) : AC G M_X10_nearest [.ref (b + 0), .int a1] (Hf w) (.inl (some (.int r.1)), Hf r.2) := by
  unfold L_X10_nearest at hL
  refine AC.of (by decide) rfl (Nat.le_of_ble_eq_true rfl) ?_
  show AG G M_X10_nearest 0 [some (.ref (b + 0)), some (.int (a1)), none, none] [] _ _
  refine g_aload_n dX10_nearest_0 rfl rfl ?_
  refine g_iconst (v := 0) dX10_nearest_1 (by decide) ?_
  refine s_putI (k := 0) (j := 0) E hL rfl rfl (by decide) fw_X10_120 rfl rfl dX10_nearest_2 ?_
  intro w9 hL
  refine g_aload_n dX10_nearest_5 rfl rfl ?_
  refine g_iload_n dX10_nearest_6 rfl rfl ?_
  obtain ⟨v10, w11, hc, hL⟩ := xB2_some hL
  refine g_callV (M' := M_X10_isPerson) (as := [.int (a1)]) (v := some (.int (v10))) l_X10_370 kV_X10_isPerson (by decide) (C_X10_isPerson E hc) rfl (by have := E.1; omega) (E.2.1 _ 0 _ rfl) ⟨_, _, rfl⟩ (Nat.le_of_ble_eq_true rfl) dX10_nearest_7 ?_
  refine g_if_ne (tgt := 15) dX10_nearest_10 (by decide) (fun q14 => ?_) (fun q14 => ?_)
  · rw [if_neg q14] at hL
    refine g_iconst (v := (-1)) dX10_nearest_15 (by decide) ?_
    refine g_istore_n (i := 2) dX10_nearest_16 rfl (by decide) rfl ?_
    refine g_iconst (v := 0) dX10_nearest_17 (by decide) ?_
    refine g_istore_n (i := 3) dX10_nearest_18 rfl (by decide) rfl ?_
    refine P_X10_nearest_19_ok E hL ?_
    · intro z12 w13 hL
      refine g_iload_n dX10_nearest_55 rfl rfl ?_
      refine g_none 2 ?_
      obtain rfl := Option.some.inj hL
      exact g_iret rfl dX10_nearest_56
  · rw [if_pos q14] at hL
    refine g_none 0 ?_
    refine g_none 1 ?_
    refine g_iconst (v := 0) dX10_nearest_13 (by decide) ?_
    obtain rfl := Option.some.inj hL
    exact g_iret rfl dX10_nearest_14
def J_X10_neighbours_79 (kh35 : Int32 → Int32 → Int32 → Int32 → wS → Option (Int32 × wS)) (ke87 : Int32 → wS → Option (Int32 × wS)) (x1 : Int32) (x2 : Int32) (x4 : Int32) (y0 : Int32) (y1 : Int32) (w : wS) : Option (Int32 × wS) :=
  kh35 (x1) (x2) ((y0 ||| y1)) ((x4 + 1)) w
set_option maxRecDepth 20000 in
theorem J_X10_neighbours_79_ok {G : aG} {Hf : wS → aH} {b : Nat} {kh35 : Int32 → Int32 → Int32 → Int32 → wS → Option (Int32 × wS)} {ke87 : Int32 → wS → Option (Int32 × wS)} {x1 : Int32} {x2 : Int32} {x4 : Int32} {y0 : Int32} {y1 : Int32} {w : wS} {r : Int32 × wS} (E : Emb Hf b 0 tbM) (hL : J_X10_neighbours_79 kh35 ke87 x1 x2 x4 y0 y1 w = some r) (Hkh35 : ∀ (z0 : Int32) (z1 : Int32) (z2 : Int32) (z3 : Int32) (w : wS), kh35 z0 z1 z2 z3 w = some r → AG G M_X10_neighbours 35 [some (.ref (b + 0)), some (.int (z0)), some (.int (z1)), some (.int (z2)), some (.int (z3))] [] (Hf w) (.inl (some (.int r.1)), Hf r.2)) (Hke87 : ∀ (z0 : Int32) (w : wS), ke87 z0 w = some r → AG G M_X10_neighbours 87 [none, none, none, some (.int (z0)), none] [] (Hf w) (.inl (some (.int r.1)), Hf r.2)) : AG G M_X10_neighbours 79 [some (.ref (b + 0)), some (.int (x1)), some (.int (x2)), none, some (.int (x4))] [.int (y1), .int (y0)] (Hf w) (.inl (some (.int r.1)), Hf r.2) := by
  unfold J_X10_neighbours_79 at hL
  refine g_ior dX10_neighbours_79 ?_
  refine g_istore_n (i := 3) dX10_neighbours_80 rfl (by decide) rfl ?_
  refine g_iincV (v := (x4 + 1)) dX10_neighbours_81 rfl rfl (by decide) rfl ?_
  refine g_goto (tgt := 35) dX10_neighbours_84 (by decide) ?_
  exact Hkh35 _ _ _ _ _ hL
def J_X10_neighbours_78 (kh35 : Int32 → Int32 → Int32 → Int32 → wS → Option (Int32 × wS)) (ke87 : Int32 → wS → Option (Int32 × wS)) (x1 : Int32) (x2 : Int32) (x4 : Int32) (y0 : Int32) (w : wS) : Option (Int32 × wS) :=
  J_X10_neighbours_79 kh35 ke87 (x1) (x2) (x4) (y0) (0) w
set_option maxRecDepth 20000 in
theorem J_X10_neighbours_78_ok {G : aG} {Hf : wS → aH} {b : Nat} {kh35 : Int32 → Int32 → Int32 → Int32 → wS → Option (Int32 × wS)} {ke87 : Int32 → wS → Option (Int32 × wS)} {x1 : Int32} {x2 : Int32} {x4 : Int32} {y0 : Int32} {w : wS} {r : Int32 × wS} (E : Emb Hf b 0 tbM) (hL : J_X10_neighbours_78 kh35 ke87 x1 x2 x4 y0 w = some r) (Hkh35 : ∀ (z0 : Int32) (z1 : Int32) (z2 : Int32) (z3 : Int32) (w : wS), kh35 z0 z1 z2 z3 w = some r → AG G M_X10_neighbours 35 [some (.ref (b + 0)), some (.int (z0)), some (.int (z1)), some (.int (z2)), some (.int (z3))] [] (Hf w) (.inl (some (.int r.1)), Hf r.2)) (Hke87 : ∀ (z0 : Int32) (w : wS), ke87 z0 w = some r → AG G M_X10_neighbours 87 [none, none, none, some (.int (z0)), none] [] (Hf w) (.inl (some (.int r.1)), Hf r.2)) : AG G M_X10_neighbours 78 [some (.ref (b + 0)), some (.int (x1)), some (.int (x2)), none, some (.int (x4))] [.int (y0)] (Hf w) (.inl (some (.int r.1)), Hf r.2) := by
  unfold J_X10_neighbours_78 at hL
  refine g_iconst (v := 0) dX10_neighbours_78 (by decide) ?_
  exact J_X10_neighbours_79_ok E hL Hkh35 Hke87
def B_X10_neighbours_35 (kh35 : Int32 → Int32 → Int32 → Int32 → wS → Option (Int32 × wS)) (ke87 : Int32 → wS → Option (Int32 × wS)) (x1 : Int32) (x2 : Int32) (x3 : Int32) (x4 : Int32) (w : wS) : Option (Int32 × wS) :=
  xB (xGet w 1) fun v1 => if v1 ≤ x4 then ke87 (x3) w else if x4 = x1 then J_X10_neighbours_78 kh35 ke87 (x1) (x2) (x4) (x3) w else xB (xAld w 3 8 (x1)) fun v2 => xB (xAld w 3 8 (x4)) fun v3 => xB (L_X10_off (v2) (v3)) fun v4 => if x2 < v4 then J_X10_neighbours_78 kh35 ke87 (x1) (x2) (x4) (x3) w else J_X10_neighbours_79 kh35 ke87 (x1) (x2) (x4) (x3) ((1 <<< (x4 &&& 31))) w
set_option maxRecDepth 20000 in
theorem B_X10_neighbours_35_ok {G : aG} {Hf : wS → aH} {b : Nat} {kh35 : Int32 → Int32 → Int32 → Int32 → wS → Option (Int32 × wS)} {ke87 : Int32 → wS → Option (Int32 × wS)} {x1 : Int32} {x2 : Int32} {x3 : Int32} {x4 : Int32} {w : wS} {r : Int32 × wS} (E : Emb Hf b 0 tbM) (hL : B_X10_neighbours_35 kh35 ke87 x1 x2 x3 x4 w = some r) (Hkh35 : ∀ (z0 : Int32) (z1 : Int32) (z2 : Int32) (z3 : Int32) (w : wS), kh35 z0 z1 z2 z3 w = some r → AG G M_X10_neighbours 35 [some (.ref (b + 0)), some (.int (z0)), some (.int (z1)), some (.int (z2)), some (.int (z3))] [] (Hf w) (.inl (some (.int r.1)), Hf r.2)) (Hke87 : ∀ (z0 : Int32) (w : wS), ke87 z0 w = some r → AG G M_X10_neighbours 87 [none, none, none, some (.int (z0)), none] [] (Hf w) (.inl (some (.int r.1)), Hf r.2)) : AG G M_X10_neighbours 35 [some (.ref (b + 0)), some (.int (x1)), some (.int (x2)), some (.int (x3)), some (.int (x4))] [] (Hf w) (.inl (some (.int r.1)), Hf r.2) := by
  unfold B_X10_neighbours_35 at hL
  refine g_iload dX10_neighbours_35 rfl ?_
  refine g_aload_n dX10_neighbours_37 rfl rfl ?_
  refine s_getI (k := 0) (j := 1) E hL rfl rfl f_X10_278 dX10_neighbours_38 ?_
  intro v1 hL
  refine g_icmp_ge (tgt := 87) dX10_neighbours_41 (by decide) (fun q7 => ?_) (fun q7 => ?_)
  · rw [if_pos q7] at hL
    refine g_none 0 ?_
    refine g_none 1 ?_
    refine g_none 2 ?_
    refine g_none 4 ?_
    exact Hke87 _ _ hL
  · rw [if_neg q7] at hL
    refine g_iload_n dX10_neighbours_44 rfl rfl ?_
    refine g_none 3 ?_
    refine g_iload dX10_neighbours_45 rfl ?_
    refine g_iload_n dX10_neighbours_47 rfl rfl ?_
    refine g_icmp_eq (tgt := 78) dX10_neighbours_48 (by decide) (fun q6 => ?_) (fun q6 => ?_)
    · rw [if_pos q6] at hL
      exact J_X10_neighbours_78_ok E hL Hkh35 Hke87
    · rw [if_neg q6] at hL
      refine g_aload_n dX10_neighbours_51 rfl rfl ?_
      refine s_getR (j := 8) E rfl rfl f_X10_26 dX10_neighbours_52 ?_
      refine g_iload_n dX10_neighbours_55 rfl rfl ?_
      refine s_iald (k := 3) E hL rfl dX10_neighbours_56 ?_
      intro v2 hL
      refine g_aload_n dX10_neighbours_57 rfl rfl ?_
      refine s_getR (j := 8) E rfl rfl f_X10_26 dX10_neighbours_58 ?_
      refine g_iload dX10_neighbours_61 rfl ?_
      refine s_iald (k := 3) E hL rfl dX10_neighbours_63 ?_
      intro v3 hL
      obtain ⟨v4, hc, hL⟩ := xB_some hL
      refine g_callS (M' := M_X10_off) (as := [.int (v2), .int (v3)]) (v := some (.int (v4))) l_X10_302 kS_X10_off (by decide) (C_X10_off hc) rfl (Nat.le_of_ble_eq_true rfl) dX10_neighbours_64 ?_
      refine g_iload_n dX10_neighbours_67 rfl rfl ?_
      refine g_icmp_gt (tgt := 78) dX10_neighbours_68 (by decide) (fun q5 => ?_) (fun q5 => ?_)
      · rw [if_pos q5] at hL
        exact J_X10_neighbours_78_ok E hL Hkh35 Hke87
      · rw [if_neg q5] at hL
        refine g_iconst (v := 1) dX10_neighbours_71 (by decide) ?_
        refine g_iload dX10_neighbours_72 rfl ?_
        refine g_ishl dX10_neighbours_74 ?_
        refine g_goto (tgt := 79) dX10_neighbours_75 (by decide) ?_
        exact J_X10_neighbours_79_ok E hL Hkh35 Hke87
def P_X10_neighbours_35 (ke87 : Int32 → wS → Option (Int32 × wS)) (n : Nat) (x1 : Int32) (x2 : Int32) (x3 : Int32) (x4 : Int32) (w : wS) : Option (Int32 × wS) :=
  xLoop (fun (kk : Int32 × Int32 × Int32 × Int32 × wS → Option (Int32 × wS)) σ => B_X10_neighbours_35 (fun x1 x2 x3 x4 w => kk (x1, x2, x3, x4, w)) ke87 (σ.1) (σ.2.1) (σ.2.2.1) (σ.2.2.2.1) (σ.2.2.2.2)) n (x1, x2, x3, x4, w)
theorem P_X10_neighbours_35_ok {G : aG} {Hf : wS → aH} {b : Nat} {ke87 : Int32 → wS → Option (Int32 × wS)} {n : Nat} {x1 : Int32} {x2 : Int32} {x3 : Int32} {x4 : Int32} {w : wS} {r : Int32 × wS} (E : Emb Hf b 0 tbM) (hL : P_X10_neighbours_35 ke87 n x1 x2 x3 x4 w = some r) (Hke87 : ∀ (z0 : Int32) (w : wS), ke87 z0 w = some r → AG G M_X10_neighbours 87 [none, none, none, some (.int (z0)), none] [] (Hf w) (.inl (some (.int r.1)), Hf r.2)) : AG G M_X10_neighbours 35 [some (.ref (b + 0)), some (.int (x1)), some (.int (x2)), some (.int (x3)), some (.int (x4))] [] (Hf w) (.inl (some (.int r.1)), Hf r.2) :=
  xLoop_ok (Q := fun (σ : Int32 × Int32 × Int32 × Int32 × wS) => AG G M_X10_neighbours 35 [some (.ref (b + 0)), some (.int (σ.1)), some (.int (σ.2.1)), some (.int (σ.2.2.1)), some (.int (σ.2.2.2.1))] [] (Hf σ.2.2.2.2) (.inl (some (.int r.1)), Hf r.2)) (fun kk hk σ hσ => B_X10_neighbours_35_ok E hσ (fun x1 x2 x3 x4 w h9 => hk (x1, x2, x3, x4, w) h9) Hke87) n (x1, x2, x3, x4, w) hL
def J_X10_neighbours_28 (w : wS) : Option (Int32 × wS) :=
  some (0, w)
set_option maxRecDepth 20000 in
theorem J_X10_neighbours_28_ok {G : aG} {Hf : wS → aH} {b : Nat} {w : wS} {r : Int32 × wS} (E : Emb Hf b 0 tbM) (hL : J_X10_neighbours_28   w = some r) : AG G M_X10_neighbours 28 [none, none, none, none, none] [] (Hf w) (.inl (some (.int r.1)), Hf r.2) := by
  unfold J_X10_neighbours_28 at hL
  refine g_iconst (v := 0) dX10_neighbours_28 (by decide) ?_
  obtain rfl := Option.some.inj hL
  exact g_iret rfl dX10_neighbours_29
def L_X10_neighbours (a1 : Int32) (a2 : Int32) (w : wS) : Option (Int32 × wS) :=
  xB (xPut w 0 (0)) fun w8 => xB2 (L_X10_isPerson (a1) w8) fun v9 w10 => if v9 = 0 then J_X10_neighbours_28   w10 else xB (L_X10_within (a2) (0) (30)) fun v11 => xB2 (L_X10_right (v11) (2) w10) fun v12 w13 => if v12 = 0 then J_X10_neighbours_28   w13 else P_X10_neighbours_35 (fun z14 w15 => some (z14, w15)) 5000 (a1) (a2) (0) (0) w13
set_option maxRecDepth 20000 in
theorem C_X10_neighbours {G : aG} {Hf : wS → aH} {b : Nat} {a1 : Int32} {a2 : Int32} {w : wS} {r : Int32 × wS} (E : Emb Hf b 0 tbM) (hL : L_X10_neighbours a1 a2 w = some r) : AC G M_X10_neighbours [.ref (b + 0), .int a1, .int a2] (Hf w) (.inl (some (.int r.1)), Hf r.2) := by
  unfold L_X10_neighbours at hL
  refine AC.of (by decide) rfl (Nat.le_of_ble_eq_true rfl) ?_
  show AG G M_X10_neighbours 0 [some (.ref (b + 0)), some (.int (a1)), some (.int (a2)), none, none] [] _ _
  refine g_aload_n dX10_neighbours_0 rfl rfl ?_
  refine g_iconst (v := 0) dX10_neighbours_1 (by decide) ?_
  refine s_putI (k := 0) (j := 0) E hL rfl rfl (by decide) fw_X10_120 rfl rfl dX10_neighbours_2 ?_
  intro w8 hL
  refine g_aload_n dX10_neighbours_5 rfl rfl ?_
  refine g_iload_n dX10_neighbours_6 rfl rfl ?_
  obtain ⟨v9, w10, hc, hL⟩ := xB2_some hL
  refine g_callV (M' := M_X10_isPerson) (as := [.int (a1)]) (v := some (.int (v9))) l_X10_370 kV_X10_isPerson (by decide) (C_X10_isPerson E hc) rfl (by have := E.1; omega) (E.2.1 _ 0 _ rfl) ⟨_, _, rfl⟩ (Nat.le_of_ble_eq_true rfl) dX10_neighbours_7 ?_
  refine g_if_eq (tgt := 28) dX10_neighbours_10 (by decide) (fun q17 => ?_) (fun q17 => ?_)
  · rw [if_pos q17] at hL
    refine g_none 0 ?_
    refine g_none 1 ?_
    refine g_none 2 ?_
    exact J_X10_neighbours_28_ok E hL 
  · rw [if_neg q17] at hL
    refine g_aload_n dX10_neighbours_13 rfl rfl ?_
    refine g_iload_n dX10_neighbours_14 rfl rfl ?_
    refine g_iconst (v := 0) dX10_neighbours_15 (by decide) ?_
    refine g_bipush (v := 30) dX10_neighbours_16 (by decide) ?_
    obtain ⟨v11, hc, hL⟩ := xB_some hL
    refine g_callS (M' := M_X10_within) (as := [.int (a2), .int (0), .int (30)]) (v := some (.int (v11))) l_X10_361 kS_X10_within (by decide) (C_X10_within hc) rfl (Nat.le_of_ble_eq_true rfl) dX10_neighbours_18 ?_
    refine g_iconst (v := 2) dX10_neighbours_21 (by decide) ?_
    obtain ⟨v12, w13, hc, hL⟩ := xB2_some hL
    refine g_callV (M' := M_X10_right) (as := [.int (v11), .int (2)]) (v := some (.int (v12))) l_X10_271 kV_X10_right (by decide) (C_X10_right E hc) rfl (by have := E.1; omega) (E.2.1 _ 0 _ rfl) ⟨_, _, rfl⟩ (Nat.le_of_ble_eq_true rfl) dX10_neighbours_22 ?_
    refine g_if_ne (tgt := 30) dX10_neighbours_25 (by decide) (fun q16 => ?_) (fun q16 => ?_)
    · rw [if_neg q16] at hL
      refine g_iconst (v := 0) dX10_neighbours_30 (by decide) ?_
      refine g_istore_n (i := 3) dX10_neighbours_31 rfl (by decide) rfl ?_
      refine g_iconst (v := 0) dX10_neighbours_32 (by decide) ?_
      refine g_istore (i := 4) dX10_neighbours_33 (by decide) rfl ?_
      refine P_X10_neighbours_35_ok E hL ?_
      · intro z14 w15 hL
        refine g_iload_n dX10_neighbours_87 rfl rfl ?_
        refine g_none 3 ?_
        obtain rfl := Option.some.inj hL
        exact g_iret rfl dX10_neighbours_88
    · rw [if_pos q16] at hL
      refine g_none 0 ?_
      refine g_none 1 ?_
      refine g_none 2 ?_
      exact J_X10_neighbours_28_ok E hL 
def J_X10_toMend_94 (kh27 : Int32 → Int32 → Int32 → wS → Option (Int32 × wS)) (ke99 : Int32 → wS → Option (Int32 × wS)) (ke107 : wS → Option (Int32 × wS)) (x1 : Int32) (x2 : Int32) (x3 : Int32) (x4 : Int32) (w : wS) : Option (Int32 × wS) :=
  if x4 = 0 then kh27 (x1) (x2) ((x3 + 1)) w else ke99 (x3) w
set_option maxRecDepth 20000 in
theorem J_X10_toMend_94_ok {G : aG} {Hf : wS → aH} {b : Nat} {kh27 : Int32 → Int32 → Int32 → wS → Option (Int32 × wS)} {ke99 : Int32 → wS → Option (Int32 × wS)} {ke107 : wS → Option (Int32 × wS)} {x1 : Int32} {x2 : Int32} {x3 : Int32} {x4 : Int32} {w : wS} {r : Int32 × wS} (E : Emb Hf b 0 tbM) (hL : J_X10_toMend_94 kh27 ke99 ke107 x1 x2 x3 x4 w = some r) (Hkh27 : ∀ (z0 : Int32) (z1 : Int32) (z2 : Int32) (w : wS), kh27 z0 z1 z2 w = some r → AG G M_X10_toMend 27 [some (.ref (b + 0)), some (.int (z0)), some (.int (z1)), some (.int (z2)), none, none] [] (Hf w) (.inl (some (.int r.1)), Hf r.2)) (Hke99 : ∀ (z0 : Int32) (w : wS), ke99 z0 w = some r → AG G M_X10_toMend 99 [none, none, none, some (.int (z0)), none, none] [] (Hf w) (.inl (some (.int r.1)), Hf r.2)) (Hke107 : ∀ (w : wS), ke107  w = some r → AG G M_X10_toMend 107 [none, none, none, none, none, none] [] (Hf w) (.inl (some (.int r.1)), Hf r.2)) : AG G M_X10_toMend 94 [some (.ref (b + 0)), some (.int (x1)), some (.int (x2)), some (.int (x3)), some (.int (x4)), none] [] (Hf w) (.inl (some (.int r.1)), Hf r.2) := by
  unfold J_X10_toMend_94 at hL
  refine g_iload dX10_toMend_94 rfl ?_
  refine g_none 4 ?_
  refine g_if_eq (tgt := 101) dX10_toMend_96 (by decide) (fun q1 => ?_) (fun q1 => ?_)
  · rw [if_pos q1] at hL
    refine g_iincV (v := (x3 + 1)) dX10_toMend_101 rfl rfl (by decide) rfl ?_
    refine g_goto (tgt := 27) dX10_toMend_104 (by decide) ?_
    exact Hkh27 _ _ _ _ hL
  · rw [if_neg q1] at hL
    refine g_none 0 ?_
    refine g_none 1 ?_
    refine g_none 2 ?_
    exact Hke99 _ _ hL
def J_X10_toMend_86 (kh53 : Int32 → Int32 → Int32 → Int32 → Int32 → wS → Option (Int32 × wS)) (ke94 : Int32 → Int32 → Int32 → Int32 → wS → Option (Int32 × wS)) (x1 : Int32) (x2 : Int32) (x3 : Int32) (x5 : Int32) (y0 : Int32) (w : wS) : Option (Int32 × wS) :=
  kh53 (x1) (x2) (x3) (y0) ((x5 + 1)) w
set_option maxRecDepth 20000 in
theorem J_X10_toMend_86_ok {G : aG} {Hf : wS → aH} {b : Nat} {kh53 : Int32 → Int32 → Int32 → Int32 → Int32 → wS → Option (Int32 × wS)} {ke94 : Int32 → Int32 → Int32 → Int32 → wS → Option (Int32 × wS)} {x1 : Int32} {x2 : Int32} {x3 : Int32} {x5 : Int32} {y0 : Int32} {w : wS} {r : Int32 × wS} (E : Emb Hf b 0 tbM) (hL : J_X10_toMend_86 kh53 ke94 x1 x2 x3 x5 y0 w = some r) (Hkh53 : ∀ (z0 : Int32) (z1 : Int32) (z2 : Int32) (z3 : Int32) (z4 : Int32) (w : wS), kh53 z0 z1 z2 z3 z4 w = some r → AG G M_X10_toMend 53 [some (.ref (b + 0)), some (.int (z0)), some (.int (z1)), some (.int (z2)), some (.int (z3)), some (.int (z4))] [] (Hf w) (.inl (some (.int r.1)), Hf r.2)) (Hke94 : ∀ (z0 : Int32) (z1 : Int32) (z2 : Int32) (z3 : Int32) (w : wS), ke94 z0 z1 z2 z3 w = some r → AG G M_X10_toMend 94 [some (.ref (b + 0)), some (.int (z0)), some (.int (z1)), some (.int (z2)), some (.int (z3)), none] [] (Hf w) (.inl (some (.int r.1)), Hf r.2)) : AG G M_X10_toMend 86 [some (.ref (b + 0)), some (.int (x1)), some (.int (x2)), some (.int (x3)), none, some (.int (x5))] [.int (y0)] (Hf w) (.inl (some (.int r.1)), Hf r.2) := by
  unfold J_X10_toMend_86 at hL
  refine g_istore (i := 4) dX10_toMend_86 (by decide) rfl ?_
  refine g_iincV (v := (x5 + 1)) dX10_toMend_88 rfl rfl (by decide) rfl ?_
  refine g_goto (tgt := 53) dX10_toMend_91 (by decide) ?_
  exact Hkh53 _ _ _ _ _ _ hL
def B_X10_toMend_53 (kh53 : Int32 → Int32 → Int32 → Int32 → Int32 → wS → Option (Int32 × wS)) (ke94 : Int32 → Int32 → Int32 → Int32 → wS → Option (Int32 × wS)) (x1 : Int32) (x2 : Int32) (x3 : Int32) (x4 : Int32) (x5 : Int32) (w : wS) : Option (Int32 × wS) :=
  if x2 ≤ x5 then ke94 (x1) (x2) (x3) (x4) w else if x4 = 0 then ke94 (x1) (x2) (x3) (x4) w else xB (L_X10_dayGoes (33) w) fun w2 => xB (xGet w2 49) fun v3 => if ((v3 >>> (x1 &&& 31)) &&& 1) = 0 then J_X10_toMend_86 kh53 ke94 (x1) (x2) (x3) (x5) (1) w2 else J_X10_toMend_86 kh53 ke94 (x1) (x2) (x3) (x5) (0) w2
set_option maxRecDepth 20000 in
theorem B_X10_toMend_53_ok {G : aG} {Hf : wS → aH} {b : Nat} {kh53 : Int32 → Int32 → Int32 → Int32 → Int32 → wS → Option (Int32 × wS)} {ke94 : Int32 → Int32 → Int32 → Int32 → wS → Option (Int32 × wS)} {x1 : Int32} {x2 : Int32} {x3 : Int32} {x4 : Int32} {x5 : Int32} {w : wS} {r : Int32 × wS} (E : Emb Hf b 0 tbM) (hL : B_X10_toMend_53 kh53 ke94 x1 x2 x3 x4 x5 w = some r) (Hkh53 : ∀ (z0 : Int32) (z1 : Int32) (z2 : Int32) (z3 : Int32) (z4 : Int32) (w : wS), kh53 z0 z1 z2 z3 z4 w = some r → AG G M_X10_toMend 53 [some (.ref (b + 0)), some (.int (z0)), some (.int (z1)), some (.int (z2)), some (.int (z3)), some (.int (z4))] [] (Hf w) (.inl (some (.int r.1)), Hf r.2)) (Hke94 : ∀ (z0 : Int32) (z1 : Int32) (z2 : Int32) (z3 : Int32) (w : wS), ke94 z0 z1 z2 z3 w = some r → AG G M_X10_toMend 94 [some (.ref (b + 0)), some (.int (z0)), some (.int (z1)), some (.int (z2)), some (.int (z3)), none] [] (Hf w) (.inl (some (.int r.1)), Hf r.2)) : AG G M_X10_toMend 53 [some (.ref (b + 0)), some (.int (x1)), some (.int (x2)), some (.int (x3)), some (.int (x4)), some (.int (x5))] [] (Hf w) (.inl (some (.int r.1)), Hf r.2) := by
  unfold B_X10_toMend_53 at hL
  refine g_iload dX10_toMend_53 rfl ?_
  refine g_iload_n dX10_toMend_55 rfl rfl ?_
  refine g_icmp_ge (tgt := 94) dX10_toMend_56 (by decide) (fun q6 => ?_) (fun q6 => ?_)
  · rw [if_pos q6] at hL
    refine g_none 5 ?_
    exact Hke94 _ _ _ _ _ hL
  · rw [if_neg q6] at hL
    refine g_iload dX10_toMend_59 rfl ?_
    refine g_if_eq (tgt := 94) dX10_toMend_61 (by decide) (fun q5 => ?_) (fun q5 => ?_)
    · rw [if_pos q5] at hL
      refine g_none 5 ?_
      exact Hke94 _ _ _ _ _ hL
    · rw [if_neg q5] at hL
      refine g_none 4 ?_
      refine g_aload_n dX10_toMend_64 rfl rfl ?_
      refine g_bipush (v := 33) dX10_toMend_65 (by decide) ?_
      obtain ⟨w2, hc, hL⟩ := xB_some hL
      refine g_callV (M' := M_X10_dayGoes) (as := [.int (33)]) (v := none) l_X10_358 kV_X10_dayGoes (by decide) (C_X10_dayGoes E hc) rfl (by have := E.1; omega) (E.2.1 _ 0 _ rfl) ⟨_, _, rfl⟩ (Nat.le_of_ble_eq_true rfl) dX10_toMend_67 ?_
      refine g_aload_n dX10_toMend_70 rfl rfl ?_
      refine s_getI (k := 0) (j := 49) E hL rfl rfl f_X10_334 dX10_toMend_71 ?_
      intro v3 hL
      refine g_iload_n dX10_toMend_74 rfl rfl ?_
      refine g_ishr dX10_toMend_75 ?_
      refine g_iconst (v := 1) dX10_toMend_76 (by decide) ?_
      refine g_iand dX10_toMend_77 ?_
      refine g_if_ne (tgt := 85) dX10_toMend_78 (by decide) (fun q4 => ?_) (fun q4 => ?_)
      · rw [if_neg q4] at hL
        refine g_iconst (v := 0) dX10_toMend_85 (by decide) ?_
        exact J_X10_toMend_86_ok E hL Hkh53 Hke94
      · rw [if_pos q4] at hL
        refine g_iconst (v := 1) dX10_toMend_81 (by decide) ?_
        refine g_goto (tgt := 86) dX10_toMend_82 (by decide) ?_
        exact J_X10_toMend_86_ok E hL Hkh53 Hke94
def P_X10_toMend_53 (ke94 : Int32 → Int32 → Int32 → Int32 → wS → Option (Int32 × wS)) (n : Nat) (x1 : Int32) (x2 : Int32) (x3 : Int32) (x4 : Int32) (x5 : Int32) (w : wS) : Option (Int32 × wS) :=
  xLoop (fun (kk : Int32 × Int32 × Int32 × Int32 × Int32 × wS → Option (Int32 × wS)) σ => B_X10_toMend_53 (fun x1 x2 x3 x4 x5 w => kk (x1, x2, x3, x4, x5, w)) ke94 (σ.1) (σ.2.1) (σ.2.2.1) (σ.2.2.2.1) (σ.2.2.2.2.1) (σ.2.2.2.2.2)) n (x1, x2, x3, x4, x5, w)
theorem P_X10_toMend_53_ok {G : aG} {Hf : wS → aH} {b : Nat} {ke94 : Int32 → Int32 → Int32 → Int32 → wS → Option (Int32 × wS)} {n : Nat} {x1 : Int32} {x2 : Int32} {x3 : Int32} {x4 : Int32} {x5 : Int32} {w : wS} {r : Int32 × wS} (E : Emb Hf b 0 tbM) (hL : P_X10_toMend_53 ke94 n x1 x2 x3 x4 x5 w = some r) (Hke94 : ∀ (z0 : Int32) (z1 : Int32) (z2 : Int32) (z3 : Int32) (w : wS), ke94 z0 z1 z2 z3 w = some r → AG G M_X10_toMend 94 [some (.ref (b + 0)), some (.int (z0)), some (.int (z1)), some (.int (z2)), some (.int (z3)), none] [] (Hf w) (.inl (some (.int r.1)), Hf r.2)) : AG G M_X10_toMend 53 [some (.ref (b + 0)), some (.int (x1)), some (.int (x2)), some (.int (x3)), some (.int (x4)), some (.int (x5))] [] (Hf w) (.inl (some (.int r.1)), Hf r.2) :=
  xLoop_ok (Q := fun (σ : Int32 × Int32 × Int32 × Int32 × Int32 × wS) => AG G M_X10_toMend 53 [some (.ref (b + 0)), some (.int (σ.1)), some (.int (σ.2.1)), some (.int (σ.2.2.1)), some (.int (σ.2.2.2.1)), some (.int (σ.2.2.2.2.1))] [] (Hf σ.2.2.2.2.2) (.inl (some (.int r.1)), Hf r.2)) (fun kk hk σ hσ => B_X10_toMend_53_ok E hσ (fun x1 x2 x3 x4 x5 w h9 => hk (x1, x2, x3, x4, x5, w) h9) Hke94) n (x1, x2, x3, x4, x5, w) hL
def B_X10_toMend_27 (kh27 : Int32 → Int32 → Int32 → wS → Option (Int32 × wS)) (ke99 : Int32 → wS → Option (Int32 × wS)) (ke107 : wS → Option (Int32 × wS)) (x1 : Int32) (x2 : Int32) (x3 : Int32) (w : wS) : Option (Int32 × wS) :=
  if 60 < x3 then ke107  w else xB (L_X10_tries  w) fun w7 => xB (xAst w7 16 66 ((36 + x1)) (x3)) fun w8 => P_X10_toMend_53 (fun z9 z10 z11 z12 w13 => J_X10_toMend_94 kh27 ke99 ke107 (z9) (z10) (z11) (z12) w13) 5000 (x1) (x2) (x3) (1) (0) w8
set_option maxRecDepth 20000 in
theorem B_X10_toMend_27_ok {G : aG} {Hf : wS → aH} {b : Nat} {kh27 : Int32 → Int32 → Int32 → wS → Option (Int32 × wS)} {ke99 : Int32 → wS → Option (Int32 × wS)} {ke107 : wS → Option (Int32 × wS)} {x1 : Int32} {x2 : Int32} {x3 : Int32} {w : wS} {r : Int32 × wS} (E : Emb Hf b 0 tbM) (hL : B_X10_toMend_27 kh27 ke99 ke107 x1 x2 x3 w = some r) (Hkh27 : ∀ (z0 : Int32) (z1 : Int32) (z2 : Int32) (w : wS), kh27 z0 z1 z2 w = some r → AG G M_X10_toMend 27 [some (.ref (b + 0)), some (.int (z0)), some (.int (z1)), some (.int (z2)), none, none] [] (Hf w) (.inl (some (.int r.1)), Hf r.2)) (Hke99 : ∀ (z0 : Int32) (w : wS), ke99 z0 w = some r → AG G M_X10_toMend 99 [none, none, none, some (.int (z0)), none, none] [] (Hf w) (.inl (some (.int r.1)), Hf r.2)) (Hke107 : ∀ (w : wS), ke107  w = some r → AG G M_X10_toMend 107 [none, none, none, none, none, none] [] (Hf w) (.inl (some (.int r.1)), Hf r.2)) : AG G M_X10_toMend 27 [some (.ref (b + 0)), some (.int (x1)), some (.int (x2)), some (.int (x3)), none, none] [] (Hf w) (.inl (some (.int r.1)), Hf r.2) := by
  unfold B_X10_toMend_27 at hL
  refine g_iload_n dX10_toMend_27 rfl rfl ?_
  refine g_bipush (v := 60) dX10_toMend_28 (by decide) ?_
  refine g_icmp_gt (tgt := 107) dX10_toMend_30 (by decide) (fun q14 => ?_) (fun q14 => ?_)
  · rw [if_pos q14] at hL
    refine g_none 0 ?_
    refine g_none 1 ?_
    refine g_none 2 ?_
    refine g_none 3 ?_
    exact Hke107  _ hL
  · rw [if_neg q14] at hL
    refine g_aload_n dX10_toMend_33 rfl rfl ?_
    obtain ⟨w7, hc, hL⟩ := xB_some hL
    refine g_callV (M' := M_X10_tries) (as := []) (v := none) l_X10_388 kV_X10_tries (by decide) (C_X10_tries E hc) rfl (by have := E.1; omega) (E.2.1 _ 0 _ rfl) ⟨_, _, rfl⟩ (Nat.le_of_ble_eq_true rfl) dX10_toMend_34 ?_
    refine g_aload_n dX10_toMend_37 rfl rfl ?_
    refine s_getR (j := 41) E rfl rfl f_X10_69 dX10_toMend_38 ?_
    refine g_bipush (v := 36) dX10_toMend_41 (by decide) ?_
    refine g_iload_n dX10_toMend_43 rfl rfl ?_
    refine g_iadd dX10_toMend_44 ?_
    refine g_iload_n dX10_toMend_45 rfl rfl ?_
    refine s_iast (k := 16) E hL rfl dX10_toMend_46 ?_
    intro w8 hL
    refine g_iconst (v := 1) dX10_toMend_47 (by decide) ?_
    refine g_istore (i := 4) dX10_toMend_48 (by decide) rfl ?_
    refine g_iconst (v := 0) dX10_toMend_50 (by decide) ?_
    refine g_istore (i := 5) dX10_toMend_51 (by decide) rfl ?_
    refine P_X10_toMend_53_ok E hL ?_
    · intro z9 z10 z11 z12 w13 hL
      exact J_X10_toMend_94_ok E hL Hkh27 Hke99 Hke107
def P_X10_toMend_27 (ke99 : Int32 → wS → Option (Int32 × wS)) (ke107 : wS → Option (Int32 × wS)) (n : Nat) (x1 : Int32) (x2 : Int32) (x3 : Int32) (w : wS) : Option (Int32 × wS) :=
  xLoop (fun (kk : Int32 × Int32 × Int32 × wS → Option (Int32 × wS)) σ => B_X10_toMend_27 (fun x1 x2 x3 w => kk (x1, x2, x3, w)) ke99 ke107 (σ.1) (σ.2.1) (σ.2.2.1) (σ.2.2.2)) n (x1, x2, x3, w)
theorem P_X10_toMend_27_ok {G : aG} {Hf : wS → aH} {b : Nat} {ke99 : Int32 → wS → Option (Int32 × wS)} {ke107 : wS → Option (Int32 × wS)} {n : Nat} {x1 : Int32} {x2 : Int32} {x3 : Int32} {w : wS} {r : Int32 × wS} (E : Emb Hf b 0 tbM) (hL : P_X10_toMend_27 ke99 ke107 n x1 x2 x3 w = some r) (Hke99 : ∀ (z0 : Int32) (w : wS), ke99 z0 w = some r → AG G M_X10_toMend 99 [none, none, none, some (.int (z0)), none, none] [] (Hf w) (.inl (some (.int r.1)), Hf r.2)) (Hke107 : ∀ (w : wS), ke107  w = some r → AG G M_X10_toMend 107 [none, none, none, none, none, none] [] (Hf w) (.inl (some (.int r.1)), Hf r.2)) : AG G M_X10_toMend 27 [some (.ref (b + 0)), some (.int (x1)), some (.int (x2)), some (.int (x3)), none, none] [] (Hf w) (.inl (some (.int r.1)), Hf r.2) :=
  xLoop_ok (Q := fun (σ : Int32 × Int32 × Int32 × wS) => AG G M_X10_toMend 27 [some (.ref (b + 0)), some (.int (σ.1)), some (.int (σ.2.1)), some (.int (σ.2.2.1)), none, none] [] (Hf σ.2.2.2) (.inl (some (.int r.1)), Hf r.2)) (fun kk hk σ hσ => B_X10_toMend_27_ok E hσ (fun x1 x2 x3 w h9 => hk (x1, x2, x3, w) h9) Hke99 Hke107) n (x1, x2, x3, w) hL
def J_X10_toMend_23 (w : wS) : Option (Int32 × wS) :=
  some (0, w)
set_option maxRecDepth 20000 in
theorem J_X10_toMend_23_ok {G : aG} {Hf : wS → aH} {b : Nat} {w : wS} {r : Int32 × wS} (E : Emb Hf b 0 tbM) (hL : J_X10_toMend_23   w = some r) : AG G M_X10_toMend 23 [none, none, none, none, none, none] [] (Hf w) (.inl (some (.int r.1)), Hf r.2) := by
  unfold J_X10_toMend_23 at hL
  refine g_iconst (v := 0) dX10_toMend_23 (by decide) ?_
  obtain rfl := Option.some.inj hL
  exact g_iret rfl dX10_toMend_24
def L_X10_toMend (a1 : Int32) (a2 : Int32) (w : wS) : Option (Int32 × wS) :=
  xB (xPut w 0 (0)) fun w15 => xB2 (L_X10_isPerson (a1) w15) fun v16 w17 => if v16 = 0 then J_X10_toMend_23   w17 else xB2 (L_X10_isDays (a2) (1) (2) w17) fun v18 w19 => if v18 = 0 then J_X10_toMend_23   w19 else P_X10_toMend_27 (fun z20 w21 => some (z20, w21)) (fun w22 => some ((-1), w22)) 5000 (a1) (a2) (0) w19
set_option maxRecDepth 20000 in
theorem C_X10_toMend {G : aG} {Hf : wS → aH} {b : Nat} {a1 : Int32} {a2 : Int32} {w : wS} {r : Int32 × wS} (E : Emb Hf b 0 tbM) (hL : L_X10_toMend a1 a2 w = some r) : AC G M_X10_toMend [.ref (b + 0), .int a1, .int a2] (Hf w) (.inl (some (.int r.1)), Hf r.2) := by
  unfold L_X10_toMend at hL
  refine AC.of (by decide) rfl (Nat.le_of_ble_eq_true rfl) ?_
  show AG G M_X10_toMend 0 [some (.ref (b + 0)), some (.int (a1)), some (.int (a2)), none, none, none] [] _ _
  refine g_aload_n dX10_toMend_0 rfl rfl ?_
  refine g_iconst (v := 0) dX10_toMend_1 (by decide) ?_
  refine s_putI (k := 0) (j := 0) E hL rfl rfl (by decide) fw_X10_120 rfl rfl dX10_toMend_2 ?_
  intro w15 hL
  refine g_aload_n dX10_toMend_5 rfl rfl ?_
  refine g_iload_n dX10_toMend_6 rfl rfl ?_
  obtain ⟨v16, w17, hc, hL⟩ := xB2_some hL
  refine g_callV (M' := M_X10_isPerson) (as := [.int (a1)]) (v := some (.int (v16))) l_X10_370 kV_X10_isPerson (by decide) (C_X10_isPerson E hc) rfl (by have := E.1; omega) (E.2.1 _ 0 _ rfl) ⟨_, _, rfl⟩ (Nat.le_of_ble_eq_true rfl) dX10_toMend_7 ?_
  refine g_if_eq (tgt := 23) dX10_toMend_10 (by decide) (fun q24 => ?_) (fun q24 => ?_)
  · rw [if_pos q24] at hL
    refine g_none 0 ?_
    refine g_none 1 ?_
    refine g_none 2 ?_
    exact J_X10_toMend_23_ok E hL 
  · rw [if_neg q24] at hL
    refine g_aload_n dX10_toMend_13 rfl rfl ?_
    refine g_iload_n dX10_toMend_14 rfl rfl ?_
    refine g_iconst (v := 1) dX10_toMend_15 (by decide) ?_
    refine g_iconst (v := 2) dX10_toMend_16 (by decide) ?_
    obtain ⟨v18, w19, hc, hL⟩ := xB2_some hL
    refine g_callV (M' := M_X10_isDays) (as := [.int (a2), .int (1), .int (2)]) (v := some (.int (v18))) l_X10_394 kV_X10_isDays (by decide) (C_X10_isDays E hc) rfl (by have := E.1; omega) (E.2.1 _ 0 _ rfl) ⟨_, _, rfl⟩ (Nat.le_of_ble_eq_true rfl) dX10_toMend_17 ?_
    refine g_if_ne (tgt := 25) dX10_toMend_20 (by decide) (fun q23 => ?_) (fun q23 => ?_)
    · rw [if_neg q23] at hL
      refine g_iconst (v := 0) dX10_toMend_25 (by decide) ?_
      refine g_istore_n (i := 3) dX10_toMend_26 rfl (by decide) rfl ?_
      refine P_X10_toMend_27_ok E hL ?_ ?_
      · intro z20 w21 hL
        refine g_iload_n dX10_toMend_99 rfl rfl ?_
        refine g_none 3 ?_
        obtain rfl := Option.some.inj hL
        exact g_iret rfl dX10_toMend_100
      · intro w22 hL
        refine g_iconst (v := (-1)) dX10_toMend_107 (by decide) ?_
        obtain rfl := Option.some.inj hL
        exact g_iret rfl dX10_toMend_108
    · rw [if_pos q23] at hL
      refine g_none 0 ?_
      refine g_none 1 ?_
      refine g_none 2 ?_
      exact J_X10_toMend_23_ok E hL 
def J_X10_silent_76 (kh46 : Int32 → Int32 → Int32 → Int32 → wS → Option (Int32 × wS)) (ke84 : Int32 → Int32 → Int32 → wS → Option (Int32 × wS)) (x1 : Int32) (x3 : Int32) (x4 : Int32) (y0 : Int32) (y1 : Int32) (w : wS) : Option (Int32 × wS) :=
  kh46 (x1) ((y0 &&& y1)) (x3) ((x4 + 1)) w
set_option maxRecDepth 20000 in
theorem J_X10_silent_76_ok {G : aG} {Hf : wS → aH} {b : Nat} {kh46 : Int32 → Int32 → Int32 → Int32 → wS → Option (Int32 × wS)} {ke84 : Int32 → Int32 → Int32 → wS → Option (Int32 × wS)} {x1 : Int32} {x3 : Int32} {x4 : Int32} {y0 : Int32} {y1 : Int32} {w : wS} {r : Int32 × wS} (E : Emb Hf b 0 tbM) (hL : J_X10_silent_76 kh46 ke84 x1 x3 x4 y0 y1 w = some r) (Hkh46 : ∀ (z0 : Int32) (z1 : Int32) (z2 : Int32) (z3 : Int32) (w : wS), kh46 z0 z1 z2 z3 w = some r → AG G M_X10_silent 46 [some (.ref (b + 0)), some (.int (z0)), some (.int (z1)), some (.int (z2)), some (.int (z3))] [] (Hf w) (.inl (some (.int r.1)), Hf r.2)) (Hke84 : ∀ (z0 : Int32) (z1 : Int32) (z2 : Int32) (w : wS), ke84 z0 z1 z2 w = some r → AG G M_X10_silent 84 [some (.ref (b + 0)), some (.int (z0)), some (.int (z1)), some (.int (z2)), none] [] (Hf w) (.inl (some (.int r.1)), Hf r.2)) : AG G M_X10_silent 76 [some (.ref (b + 0)), some (.int (x1)), none, some (.int (x3)), some (.int (x4))] [.int (y1), .int (y0)] (Hf w) (.inl (some (.int r.1)), Hf r.2) := by
  unfold J_X10_silent_76 at hL
  refine g_iand dX10_silent_76 ?_
  refine g_istore_n (i := 2) dX10_silent_77 rfl (by decide) rfl ?_
  refine g_iincV (v := (x4 + 1)) dX10_silent_78 rfl rfl (by decide) rfl ?_
  refine g_goto (tgt := 46) dX10_silent_81 (by decide) ?_
  exact Hkh46 _ _ _ _ _ hL
def B_X10_silent_46 (kh46 : Int32 → Int32 → Int32 → Int32 → wS → Option (Int32 × wS)) (ke84 : Int32 → Int32 → Int32 → wS → Option (Int32 × wS)) (x1 : Int32) (x2 : Int32) (x3 : Int32) (x4 : Int32) (w : wS) : Option (Int32 × wS) :=
  xB (xGet w 2) fun v1 => if v1 ≤ x4 then ke84 (x1) (x2) (x3) w else xB (xAld w 20 6 (x4)) fun v2 => if v2 = 0 then J_X10_silent_76 kh46 ke84 (x1) (x3) (x4) (x2) (x2) w else J_X10_silent_76 kh46 ke84 (x1) (x3) (x4) (x2) (((1 <<< (x4 &&& 31)) ^^^ (-1))) w
set_option maxRecDepth 20000 in
theorem B_X10_silent_46_ok {G : aG} {Hf : wS → aH} {b : Nat} {kh46 : Int32 → Int32 → Int32 → Int32 → wS → Option (Int32 × wS)} {ke84 : Int32 → Int32 → Int32 → wS → Option (Int32 × wS)} {x1 : Int32} {x2 : Int32} {x3 : Int32} {x4 : Int32} {w : wS} {r : Int32 × wS} (E : Emb Hf b 0 tbM) (hL : B_X10_silent_46 kh46 ke84 x1 x2 x3 x4 w = some r) (Hkh46 : ∀ (z0 : Int32) (z1 : Int32) (z2 : Int32) (z3 : Int32) (w : wS), kh46 z0 z1 z2 z3 w = some r → AG G M_X10_silent 46 [some (.ref (b + 0)), some (.int (z0)), some (.int (z1)), some (.int (z2)), some (.int (z3))] [] (Hf w) (.inl (some (.int r.1)), Hf r.2)) (Hke84 : ∀ (z0 : Int32) (z1 : Int32) (z2 : Int32) (w : wS), ke84 z0 z1 z2 w = some r → AG G M_X10_silent 84 [some (.ref (b + 0)), some (.int (z0)), some (.int (z1)), some (.int (z2)), none] [] (Hf w) (.inl (some (.int r.1)), Hf r.2)) : AG G M_X10_silent 46 [some (.ref (b + 0)), some (.int (x1)), some (.int (x2)), some (.int (x3)), some (.int (x4))] [] (Hf w) (.inl (some (.int r.1)), Hf r.2) := by
  unfold B_X10_silent_46 at hL
  refine g_iload dX10_silent_46 rfl ?_
  refine g_aload_n dX10_silent_48 rfl rfl ?_
  refine s_getI (k := 0) (j := 2) E hL rfl rfl f_X10_281 dX10_silent_49 ?_
  intro v1 hL
  refine g_icmp_ge (tgt := 84) dX10_silent_52 (by decide) (fun q4 => ?_) (fun q4 => ?_)
  · rw [if_pos q4] at hL
    refine g_none 4 ?_
    exact Hke84 _ _ _ _ hL
  · rw [if_neg q4] at hL
    refine g_iload_n dX10_silent_55 rfl rfl ?_
    refine g_aload_n dX10_silent_56 rfl rfl ?_
    refine s_getR (j := 46) E rfl rfl f_X10_81 dX10_silent_57 ?_
    refine g_iload dX10_silent_60 rfl ?_
    refine s_iald (k := 20) E hL rfl dX10_silent_62 ?_
    intro v2 hL
    refine g_if_ne (tgt := 70) dX10_silent_63 (by decide) (fun q3 => ?_) (fun q3 => ?_)
    · rw [if_neg q3] at hL
      refine g_none 2 ?_
      refine g_iconst (v := 1) dX10_silent_70 (by decide) ?_
      refine g_iload dX10_silent_71 rfl ?_
      refine g_ishl dX10_silent_73 ?_
      refine g_iconst (v := (-1)) dX10_silent_74 (by decide) ?_
      refine g_ixor dX10_silent_75 ?_
      exact J_X10_silent_76_ok E hL Hkh46 Hke84
    · rw [if_pos q3] at hL
      refine g_iload_n dX10_silent_66 rfl rfl ?_
      refine g_none 2 ?_
      refine g_goto (tgt := 76) dX10_silent_67 (by decide) ?_
      exact J_X10_silent_76_ok E hL Hkh46 Hke84
def P_X10_silent_46 (ke84 : Int32 → Int32 → Int32 → wS → Option (Int32 × wS)) (n : Nat) (x1 : Int32) (x2 : Int32) (x3 : Int32) (x4 : Int32) (w : wS) : Option (Int32 × wS) :=
  xLoop (fun (kk : Int32 × Int32 × Int32 × Int32 × wS → Option (Int32 × wS)) σ => B_X10_silent_46 (fun x1 x2 x3 x4 w => kk (x1, x2, x3, x4, w)) ke84 (σ.1) (σ.2.1) (σ.2.2.1) (σ.2.2.2.1) (σ.2.2.2.2)) n (x1, x2, x3, x4, w)
theorem P_X10_silent_46_ok {G : aG} {Hf : wS → aH} {b : Nat} {ke84 : Int32 → Int32 → Int32 → wS → Option (Int32 × wS)} {n : Nat} {x1 : Int32} {x2 : Int32} {x3 : Int32} {x4 : Int32} {w : wS} {r : Int32 × wS} (E : Emb Hf b 0 tbM) (hL : P_X10_silent_46 ke84 n x1 x2 x3 x4 w = some r) (Hke84 : ∀ (z0 : Int32) (z1 : Int32) (z2 : Int32) (w : wS), ke84 z0 z1 z2 w = some r → AG G M_X10_silent 84 [some (.ref (b + 0)), some (.int (z0)), some (.int (z1)), some (.int (z2)), none] [] (Hf w) (.inl (some (.int r.1)), Hf r.2)) : AG G M_X10_silent 46 [some (.ref (b + 0)), some (.int (x1)), some (.int (x2)), some (.int (x3)), some (.int (x4))] [] (Hf w) (.inl (some (.int r.1)), Hf r.2) :=
  xLoop_ok (Q := fun (σ : Int32 × Int32 × Int32 × Int32 × wS) => AG G M_X10_silent 46 [some (.ref (b + 0)), some (.int (σ.1)), some (.int (σ.2.1)), some (.int (σ.2.2.1)), some (.int (σ.2.2.2.1))] [] (Hf σ.2.2.2.2) (.inl (some (.int r.1)), Hf r.2)) (fun kk hk σ hσ => B_X10_silent_46_ok E hσ (fun x1 x2 x3 x4 w h9 => hk (x1, x2, x3, x4, w) h9) Hke84) n (x1, x2, x3, x4, w) hL
def B_X10_silent_32 (kh32 : Int32 → Int32 → Int32 → wS → Option (Int32 × wS)) (ke90 : Int32 → wS → Option (Int32 × wS)) (x1 : Int32) (x2 : Int32) (x3 : Int32) (w : wS) : Option (Int32 × wS) :=
  if x1 ≤ x3 then ke90 (x2) w else xB (L_X10_dayGoes (33) w) fun w5 => P_X10_silent_46 (fun z6 z7 z8 w9 => kh32 (z6) (z7) ((z8 + 1)) w9) 5000 (x1) (x2) (x3) (0) w5
set_option maxRecDepth 20000 in
theorem B_X10_silent_32_ok {G : aG} {Hf : wS → aH} {b : Nat} {kh32 : Int32 → Int32 → Int32 → wS → Option (Int32 × wS)} {ke90 : Int32 → wS → Option (Int32 × wS)} {x1 : Int32} {x2 : Int32} {x3 : Int32} {w : wS} {r : Int32 × wS} (E : Emb Hf b 0 tbM) (hL : B_X10_silent_32 kh32 ke90 x1 x2 x3 w = some r) (Hkh32 : ∀ (z0 : Int32) (z1 : Int32) (z2 : Int32) (w : wS), kh32 z0 z1 z2 w = some r → AG G M_X10_silent 32 [some (.ref (b + 0)), some (.int (z0)), some (.int (z1)), some (.int (z2)), none] [] (Hf w) (.inl (some (.int r.1)), Hf r.2)) (Hke90 : ∀ (z0 : Int32) (w : wS), ke90 z0 w = some r → AG G M_X10_silent 90 [none, none, some (.int (z0)), none, none] [] (Hf w) (.inl (some (.int r.1)), Hf r.2)) : AG G M_X10_silent 32 [some (.ref (b + 0)), some (.int (x1)), some (.int (x2)), some (.int (x3)), none] [] (Hf w) (.inl (some (.int r.1)), Hf r.2) := by
  unfold B_X10_silent_32 at hL
  refine g_iload_n dX10_silent_32 rfl rfl ?_
  refine g_iload_n dX10_silent_33 rfl rfl ?_
  refine g_icmp_ge (tgt := 90) dX10_silent_34 (by decide) (fun q10 => ?_) (fun q10 => ?_)
  · rw [if_pos q10] at hL
    refine g_none 0 ?_
    refine g_none 1 ?_
    refine g_none 3 ?_
    exact Hke90 _ _ hL
  · rw [if_neg q10] at hL
    refine g_aload_n dX10_silent_37 rfl rfl ?_
    refine g_bipush (v := 33) dX10_silent_38 (by decide) ?_
    obtain ⟨w5, hc, hL⟩ := xB_some hL
    refine g_callV (M' := M_X10_dayGoes) (as := [.int (33)]) (v := none) l_X10_358 kV_X10_dayGoes (by decide) (C_X10_dayGoes E hc) rfl (by have := E.1; omega) (E.2.1 _ 0 _ rfl) ⟨_, _, rfl⟩ (Nat.le_of_ble_eq_true rfl) dX10_silent_40 ?_
    refine g_iconst (v := 0) dX10_silent_43 (by decide) ?_
    refine g_istore (i := 4) dX10_silent_44 (by decide) rfl ?_
    refine P_X10_silent_46_ok E hL ?_
    · intro z6 z7 z8 w9 hL
      refine g_iincV (v := (z8 + 1)) dX10_silent_84 rfl rfl (by decide) rfl ?_
      refine g_goto (tgt := 32) dX10_silent_87 (by decide) ?_
      exact Hkh32 _ _ _ _ hL
def P_X10_silent_32 (ke90 : Int32 → wS → Option (Int32 × wS)) (n : Nat) (x1 : Int32) (x2 : Int32) (x3 : Int32) (w : wS) : Option (Int32 × wS) :=
  xLoop (fun (kk : Int32 × Int32 × Int32 × wS → Option (Int32 × wS)) σ => B_X10_silent_32 (fun x1 x2 x3 w => kk (x1, x2, x3, w)) ke90 (σ.1) (σ.2.1) (σ.2.2.1) (σ.2.2.2)) n (x1, x2, x3, w)
theorem P_X10_silent_32_ok {G : aG} {Hf : wS → aH} {b : Nat} {ke90 : Int32 → wS → Option (Int32 × wS)} {n : Nat} {x1 : Int32} {x2 : Int32} {x3 : Int32} {w : wS} {r : Int32 × wS} (E : Emb Hf b 0 tbM) (hL : P_X10_silent_32 ke90 n x1 x2 x3 w = some r) (Hke90 : ∀ (z0 : Int32) (w : wS), ke90 z0 w = some r → AG G M_X10_silent 90 [none, none, some (.int (z0)), none, none] [] (Hf w) (.inl (some (.int r.1)), Hf r.2)) : AG G M_X10_silent 32 [some (.ref (b + 0)), some (.int (x1)), some (.int (x2)), some (.int (x3)), none] [] (Hf w) (.inl (some (.int r.1)), Hf r.2) :=
  xLoop_ok (Q := fun (σ : Int32 × Int32 × Int32 × wS) => AG G M_X10_silent 32 [some (.ref (b + 0)), some (.int (σ.1)), some (.int (σ.2.1)), some (.int (σ.2.2.1)), none] [] (Hf σ.2.2.2) (.inl (some (.int r.1)), Hf r.2)) (fun kk hk σ hσ => B_X10_silent_32_ok E hσ (fun x1 x2 x3 w h9 => hk (x1, x2, x3, w) h9) Hke90) n (x1, x2, x3, w) hL
def L_X10_silent (a1 : Int32) (w : wS) : Option (Int32 × wS) :=
  xB (xPut w 0 (0)) fun w11 => xB2 (L_X10_isDays (a1) (0) (1) w11) fun v12 w13 => if v12 = 0 then some (0, w13) else xB (xGet w13 2) fun v14 => xB (L_X10_tries  w13) fun w15 => P_X10_silent_32 (fun z16 w17 => some (z16, w17)) 5000 (a1) (((1 <<< (v14 &&& 31)) - 1)) (0) w15
set_option maxRecDepth 20000 in
theorem C_X10_silent {G : aG} {Hf : wS → aH} {b : Nat} {a1 : Int32} {w : wS} {r : Int32 × wS} (E : Emb Hf b 0 tbM) (hL : L_X10_silent a1 w = some r) : AC G M_X10_silent [.ref (b + 0), .int a1] (Hf w) (.inl (some (.int r.1)), Hf r.2) := by
  unfold L_X10_silent at hL
  refine AC.of (by decide) rfl (Nat.le_of_ble_eq_true rfl) ?_
  show AG G M_X10_silent 0 [some (.ref (b + 0)), some (.int (a1)), none, none, none] [] _ _
  refine g_aload_n dX10_silent_0 rfl rfl ?_
  refine g_iconst (v := 0) dX10_silent_1 (by decide) ?_
  refine s_putI (k := 0) (j := 0) E hL rfl rfl (by decide) fw_X10_120 rfl rfl dX10_silent_2 ?_
  intro w11 hL
  refine g_aload_n dX10_silent_5 rfl rfl ?_
  refine g_iload_n dX10_silent_6 rfl rfl ?_
  refine g_iconst (v := 0) dX10_silent_7 (by decide) ?_
  refine g_iconst (v := 1) dX10_silent_8 (by decide) ?_
  obtain ⟨v12, w13, hc, hL⟩ := xB2_some hL
  refine g_callV (M' := M_X10_isDays) (as := [.int (a1), .int (0), .int (1)]) (v := some (.int (v12))) l_X10_394 kV_X10_isDays (by decide) (C_X10_isDays E hc) rfl (by have := E.1; omega) (E.2.1 _ 0 _ rfl) ⟨_, _, rfl⟩ (Nat.le_of_ble_eq_true rfl) dX10_silent_9 ?_
  refine g_if_ne (tgt := 17) dX10_silent_12 (by decide) (fun q18 => ?_) (fun q18 => ?_)
  · rw [if_neg q18] at hL
    refine g_iconst (v := 1) dX10_silent_17 (by decide) ?_
    refine g_aload_n dX10_silent_18 rfl rfl ?_
    refine s_getI (k := 0) (j := 2) E hL rfl rfl f_X10_281 dX10_silent_19 ?_
    intro v14 hL
    refine g_ishl dX10_silent_22 ?_
    refine g_iconst (v := 1) dX10_silent_23 (by decide) ?_
    refine g_isub dX10_silent_24 ?_
    refine g_istore_n (i := 2) dX10_silent_25 rfl (by decide) rfl ?_
    refine g_aload_n dX10_silent_26 rfl rfl ?_
    obtain ⟨w15, hc, hL⟩ := xB_some hL
    refine g_callV (M' := M_X10_tries) (as := []) (v := none) l_X10_388 kV_X10_tries (by decide) (C_X10_tries E hc) rfl (by have := E.1; omega) (E.2.1 _ 0 _ rfl) ⟨_, _, rfl⟩ (Nat.le_of_ble_eq_true rfl) dX10_silent_27 ?_
    refine g_iconst (v := 0) dX10_silent_30 (by decide) ?_
    refine g_istore_n (i := 3) dX10_silent_31 rfl (by decide) rfl ?_
    refine P_X10_silent_32_ok E hL ?_
    · intro z16 w17 hL
      refine g_iload_n dX10_silent_90 rfl rfl ?_
      refine g_none 2 ?_
      obtain rfl := Option.some.inj hL
      exact g_iret rfl dX10_silent_91
  · rw [if_pos q18] at hL
    refine g_none 0 ?_
    refine g_none 1 ?_
    refine g_iconst (v := 0) dX10_silent_15 (by decide) ?_
    obtain rfl := Option.some.inj hL
    exact g_iret rfl dX10_silent_16
def B_X10_behind_25 (kh25 : Int32 → Int32 → Int32 → wS → Option (Int32 × wS)) (ke49 : Int32 → wS → Option (Int32 × wS)) (x1 : Int32) (x2 : Int32) (x3 : Int32) (w : wS) : Option (Int32 × wS) :=
  if x1 ≤ x3 then ke49 (x2) w else xB (L_X10_dayGoes (33) w) fun w1 => xB (xGet w1 51) fun v2 => kh25 (x1) ((x2 + v2)) ((x3 + 1)) w1
set_option maxRecDepth 20000 in
theorem B_X10_behind_25_ok {G : aG} {Hf : wS → aH} {b : Nat} {kh25 : Int32 → Int32 → Int32 → wS → Option (Int32 × wS)} {ke49 : Int32 → wS → Option (Int32 × wS)} {x1 : Int32} {x2 : Int32} {x3 : Int32} {w : wS} {r : Int32 × wS} (E : Emb Hf b 0 tbM) (hL : B_X10_behind_25 kh25 ke49 x1 x2 x3 w = some r) (Hkh25 : ∀ (z0 : Int32) (z1 : Int32) (z2 : Int32) (w : wS), kh25 z0 z1 z2 w = some r → AG G M_X10_behind 25 [some (.ref (b + 0)), some (.int (z0)), some (.int (z1)), some (.int (z2))] [] (Hf w) (.inl (some (.int r.1)), Hf r.2)) (Hke49 : ∀ (z0 : Int32) (w : wS), ke49 z0 w = some r → AG G M_X10_behind 49 [none, none, some (.int (z0)), none] [] (Hf w) (.inl (some (.int r.1)), Hf r.2)) : AG G M_X10_behind 25 [some (.ref (b + 0)), some (.int (x1)), some (.int (x2)), some (.int (x3))] [] (Hf w) (.inl (some (.int r.1)), Hf r.2) := by
  unfold B_X10_behind_25 at hL
  refine g_iload_n dX10_behind_25 rfl rfl ?_
  refine g_iload_n dX10_behind_26 rfl rfl ?_
  refine g_icmp_ge (tgt := 49) dX10_behind_27 (by decide) (fun q3 => ?_) (fun q3 => ?_)
  · rw [if_pos q3] at hL
    refine g_none 0 ?_
    refine g_none 1 ?_
    refine g_none 3 ?_
    exact Hke49 _ _ hL
  · rw [if_neg q3] at hL
    refine g_aload_n dX10_behind_30 rfl rfl ?_
    refine g_bipush (v := 33) dX10_behind_31 (by decide) ?_
    obtain ⟨w1, hc, hL⟩ := xB_some hL
    refine g_callV (M' := M_X10_dayGoes) (as := [.int (33)]) (v := none) l_X10_358 kV_X10_dayGoes (by decide) (C_X10_dayGoes E hc) rfl (by have := E.1; omega) (E.2.1 _ 0 _ rfl) ⟨_, _, rfl⟩ (Nat.le_of_ble_eq_true rfl) dX10_behind_33 ?_
    refine g_iload_n dX10_behind_36 rfl rfl ?_
    refine g_none 2 ?_
    refine g_aload_n dX10_behind_37 rfl rfl ?_
    refine s_getI (k := 0) (j := 51) E hL rfl rfl f_X10_337 dX10_behind_38 ?_
    intro v2 hL
    refine g_iadd dX10_behind_41 ?_
    refine g_istore_n (i := 2) dX10_behind_42 rfl (by decide) rfl ?_
    refine g_iincV (v := (x3 + 1)) dX10_behind_43 rfl rfl (by decide) rfl ?_
    refine g_goto (tgt := 25) dX10_behind_46 (by decide) ?_
    exact Hkh25 _ _ _ _ hL
def P_X10_behind_25 (ke49 : Int32 → wS → Option (Int32 × wS)) (n : Nat) (x1 : Int32) (x2 : Int32) (x3 : Int32) (w : wS) : Option (Int32 × wS) :=
  xLoop (fun (kk : Int32 × Int32 × Int32 × wS → Option (Int32 × wS)) σ => B_X10_behind_25 (fun x1 x2 x3 w => kk (x1, x2, x3, w)) ke49 (σ.1) (σ.2.1) (σ.2.2.1) (σ.2.2.2)) n (x1, x2, x3, w)
theorem P_X10_behind_25_ok {G : aG} {Hf : wS → aH} {b : Nat} {ke49 : Int32 → wS → Option (Int32 × wS)} {n : Nat} {x1 : Int32} {x2 : Int32} {x3 : Int32} {w : wS} {r : Int32 × wS} (E : Emb Hf b 0 tbM) (hL : P_X10_behind_25 ke49 n x1 x2 x3 w = some r) (Hke49 : ∀ (z0 : Int32) (w : wS), ke49 z0 w = some r → AG G M_X10_behind 49 [none, none, some (.int (z0)), none] [] (Hf w) (.inl (some (.int r.1)), Hf r.2)) : AG G M_X10_behind 25 [some (.ref (b + 0)), some (.int (x1)), some (.int (x2)), some (.int (x3))] [] (Hf w) (.inl (some (.int r.1)), Hf r.2) :=
  xLoop_ok (Q := fun (σ : Int32 × Int32 × Int32 × wS) => AG G M_X10_behind 25 [some (.ref (b + 0)), some (.int (σ.1)), some (.int (σ.2.1)), some (.int (σ.2.2.1))] [] (Hf σ.2.2.2) (.inl (some (.int r.1)), Hf r.2)) (fun kk hk σ hσ => B_X10_behind_25_ok E hσ (fun x1 x2 x3 w h9 => hk (x1, x2, x3, w) h9) Hke49) n (x1, x2, x3, w) hL
def L_X10_behind (a1 : Int32) (w : wS) : Option (Int32 × wS) :=
  xB (xPut w 0 (0)) fun w4 => xB2 (L_X10_isDays (a1) (0) (1) w4) fun v5 w6 => if v5 = 0 then some (0, w6) else xB (L_X10_tries  w6) fun w7 => P_X10_behind_25 (fun z8 w9 => some (z8, w9)) 5000 (a1) (0) (0) w7
set_option maxRecDepth 20000 in
theorem C_X10_behind {G : aG} {Hf : wS → aH} {b : Nat} {a1 : Int32} {w : wS} {r : Int32 × wS} (E : Emb Hf b 0 tbM) (hL : L_X10_behind a1 w = some r) : AC G M_X10_behind [.ref (b + 0), .int a1] (Hf w) (.inl (some (.int r.1)), Hf r.2) := by
  unfold L_X10_behind at hL
  refine AC.of (by decide) rfl (Nat.le_of_ble_eq_true rfl) ?_
  show AG G M_X10_behind 0 [some (.ref (b + 0)), some (.int (a1)), none, none] [] _ _
  refine g_aload_n dX10_behind_0 rfl rfl ?_
  refine g_iconst (v := 0) dX10_behind_1 (by decide) ?_
  refine s_putI (k := 0) (j := 0) E hL rfl rfl (by decide) fw_X10_120 rfl rfl dX10_behind_2 ?_
  intro w4 hL
  refine g_aload_n dX10_behind_5 rfl rfl ?_
  refine g_iload_n dX10_behind_6 rfl rfl ?_
  refine g_iconst (v := 0) dX10_behind_7 (by decide) ?_
  refine g_iconst (v := 1) dX10_behind_8 (by decide) ?_
  obtain ⟨v5, w6, hc, hL⟩ := xB2_some hL
  refine g_callV (M' := M_X10_isDays) (as := [.int (a1), .int (0), .int (1)]) (v := some (.int (v5))) l_X10_394 kV_X10_isDays (by decide) (C_X10_isDays E hc) rfl (by have := E.1; omega) (E.2.1 _ 0 _ rfl) ⟨_, _, rfl⟩ (Nat.le_of_ble_eq_true rfl) dX10_behind_9 ?_
  refine g_if_ne (tgt := 17) dX10_behind_12 (by decide) (fun q10 => ?_) (fun q10 => ?_)
  · rw [if_neg q10] at hL
    refine g_iconst (v := 0) dX10_behind_17 (by decide) ?_
    refine g_istore_n (i := 2) dX10_behind_18 rfl (by decide) rfl ?_
    refine g_aload_n dX10_behind_19 rfl rfl ?_
    obtain ⟨w7, hc, hL⟩ := xB_some hL
    refine g_callV (M' := M_X10_tries) (as := []) (v := none) l_X10_388 kV_X10_tries (by decide) (C_X10_tries E hc) rfl (by have := E.1; omega) (E.2.1 _ 0 _ rfl) ⟨_, _, rfl⟩ (Nat.le_of_ble_eq_true rfl) dX10_behind_20 ?_
    refine g_iconst (v := 0) dX10_behind_23 (by decide) ?_
    refine g_istore_n (i := 3) dX10_behind_24 rfl (by decide) rfl ?_
    refine P_X10_behind_25_ok E hL ?_
    · intro z8 w9 hL
      refine g_iload_n dX10_behind_49 rfl rfl ?_
      refine g_none 2 ?_
      obtain rfl := Option.some.inj hL
      exact g_iret rfl dX10_behind_50
  · rw [if_pos q10] at hL
    refine g_none 0 ?_
    refine g_none 1 ?_
    refine g_iconst (v := 0) dX10_behind_15 (by decide) ?_
    obtain rfl := Option.some.inj hL
    exact g_iret rfl dX10_behind_16
