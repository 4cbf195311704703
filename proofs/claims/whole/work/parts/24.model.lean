def L_X10_isWhat (a1 : Int32) (a2 : Int32) (w : wS) : Option (Int32 × wS) :=
  xB (L_X10_within (a1) (0) (a2)) fun v1 => xB2 (L_X10_right (v1) (1) w) fun v2 w3 => xB (xBool (v2)) fun v4 => some (v4, w3)
set_option maxRecDepth 20000 in
theorem C_X10_isWhat {G : aG} {Hf : wS → aH} {b : Nat} {a1 : Int32} {a2 : Int32} {w : wS} {r : Int32 × wS} (E : Emb Hf b 0 tbM) (hL : L_X10_isWhat a1 a2 w = some r) : AC G M_X10_isWhat [.ref (b + 0), .int a1, .int a2] (Hf w) (.inl (some (.int r.1)), Hf r.2) := by
  unfold L_X10_isWhat at hL
  refine AC.of (by decide) rfl (Nat.le_of_ble_eq_true rfl) ?_
  show AG G M_X10_isWhat 0 [some (.ref (b + 0)), some (.int (a1)), some (.int (a2))] [] _ _
  refine g_aload_n dX10_isWhat_0 rfl rfl ?_
  refine g_none 0 ?_
  refine g_iload_n dX10_isWhat_1 rfl rfl ?_
  refine g_none 1 ?_
  refine g_iconst (v := 0) dX10_isWhat_2 (by decide) ?_
  refine g_iload_n dX10_isWhat_3 rfl rfl ?_
  refine g_none 2 ?_
  obtain ⟨v1, hc, hL⟩ := xB_some hL
  refine g_callS (M' := M_X10_within) (as := [.int (a1), .int (0), .int (a2)]) (v := some (.int (v1))) l_X10_361 kS_X10_within (by decide) (C_X10_within hc) rfl (Nat.le_of_ble_eq_true rfl) dX10_isWhat_4 ?_
  refine g_iconst (v := 1) dX10_isWhat_7 (by decide) ?_
  obtain ⟨v2, w3, hc, hL⟩ := xB2_some hL
  refine g_callV (M' := M_X10_right) (as := [.int (v1), .int (1)]) (v := some (.int (v2))) l_X10_271 kV_X10_right (by decide) (C_X10_right E hc) rfl (by have := E.1; omega) (E.2.1 _ 0 _ rfl) ⟨_, _, rfl⟩ (Nat.le_of_ble_eq_true rfl) dX10_isWhat_8 ?_
  obtain ⟨v4, hb, hR⟩ := xB_some hL
  obtain ⟨hz, hb2⟩ := xBool_some hb
  clear hL
  subst hz
  obtain rfl := Option.some.inj hR
  exact g_zret rfl (narrow_bool hb2) dX10_isWhat_11
def L_X10_isDays (a1 : Int32) (a2 : Int32) (a3 : Int32) (w : wS) : Option (Int32 × wS) :=
  xB (L_X10_within (a1) (a2) (40)) fun v1 => xB2 (L_X10_right (v1) (a3) w) fun v2 w3 => xB (xBool (v2)) fun v4 => some (v4, w3)
set_option maxRecDepth 20000 in
theorem C_X10_isDays {G : aG} {Hf : wS → aH} {b : Nat} {a1 : Int32} {a2 : Int32} {a3 : Int32} {w : wS} {r : Int32 × wS} (E : Emb Hf b 0 tbM) (hL : L_X10_isDays a1 a2 a3 w = some r) : AC G M_X10_isDays [.ref (b + 0), .int a1, .int a2, .int a3] (Hf w) (.inl (some (.int r.1)), Hf r.2) := by
  unfold L_X10_isDays at hL
  refine AC.of (by decide) rfl (Nat.le_of_ble_eq_true rfl) ?_
  show AG G M_X10_isDays 0 [some (.ref (b + 0)), some (.int (a1)), some (.int (a2)), some (.int (a3))] [] _ _
  refine g_aload_n dX10_isDays_0 rfl rfl ?_
  refine g_none 0 ?_
  refine g_iload_n dX10_isDays_1 rfl rfl ?_
  refine g_none 1 ?_
  refine g_iload_n dX10_isDays_2 rfl rfl ?_
  refine g_none 2 ?_
  refine g_bipush (v := 40) dX10_isDays_3 (by decide) ?_
  obtain ⟨v1, hc, hL⟩ := xB_some hL
  refine g_callS (M' := M_X10_within) (as := [.int (a1), .int (a2), .int (40)]) (v := some (.int (v1))) l_X10_361 kS_X10_within (by decide) (C_X10_within hc) rfl (Nat.le_of_ble_eq_true rfl) dX10_isDays_5 ?_
  refine g_iload_n dX10_isDays_8 rfl rfl ?_
  refine g_none 3 ?_
  obtain ⟨v2, w3, hc, hL⟩ := xB2_some hL
  refine g_callV (M' := M_X10_right) (as := [.int (v1), .int (a3)]) (v := some (.int (v2))) l_X10_271 kV_X10_right (by decide) (C_X10_right E hc) rfl (by have := E.1; omega) (E.2.1 _ 0 _ rfl) ⟨_, _, rfl⟩ (Nat.le_of_ble_eq_true rfl) dX10_isDays_9 ?_
  obtain ⟨v4, hb, hR⟩ := xB_some hL
  obtain ⟨hz, hb2⟩ := xBool_some hb
  clear hL
  subst hz
  obtain rfl := Option.some.inj hR
  exact g_zret rfl (narrow_bool hb2) dX10_isDays_12
def J_X10_doesCount_25 (y0 : Int32) (w : wS) : Option (Int32 × wS) :=
  xB (xBool (y0)) fun v1 => some (v1, w)
set_option maxRecDepth 20000 in
theorem J_X10_doesCount_25_ok {G : aG} {Hf : wS → aH} {b : Nat} {y0 : Int32} {w : wS} {r : Int32 × wS} (E : Emb Hf b 0 tbM) (hL : J_X10_doesCount_25  y0 w = some r) : AG G M_X10_doesCount 25 [none, none] [.int (y0)] (Hf w) (.inl (some (.int r.1)), Hf r.2) := by
  unfold J_X10_doesCount_25 at hL
  obtain ⟨v1, hb, hR⟩ := xB_some hL
  obtain ⟨hz, hb2⟩ := xBool_some hb
  clear hL
  subst hz
  obtain rfl := Option.some.inj hR
  exact g_zret rfl (narrow_bool hb2) dX10_doesCount_25
def J_X10_doesCount_24 (w : wS) : Option (Int32 × wS) :=
  J_X10_doesCount_25  (0) w
set_option maxRecDepth 20000 in
theorem J_X10_doesCount_24_ok {G : aG} {Hf : wS → aH} {b : Nat} {w : wS} {r : Int32 × wS} (E : Emb Hf b 0 tbM) (hL : J_X10_doesCount_24   w = some r) : AG G M_X10_doesCount 24 [none, none] [] (Hf w) (.inl (some (.int r.1)), Hf r.2) := by
  unfold J_X10_doesCount_24 at hL
  refine g_iconst (v := 0) dX10_doesCount_24 (by decide) ?_
  exact J_X10_doesCount_25_ok E hL 
def L_X10_doesCount (a1 : Int32) (w : wS) : Option (Int32 × wS) :=
  xB (xAld w 1 8 (a1)) fun v2 => if v2 = 1 then J_X10_doesCount_24   w else xB (xAld w 1 8 (a1)) fun v3 => if v3 = 2 then J_X10_doesCount_24   w else J_X10_doesCount_25  (1) w
set_option maxRecDepth 20000 in
theorem C_X10_doesCount {G : aG} {Hf : wS → aH} {b : Nat} {a1 : Int32} {w : wS} {r : Int32 × wS} (E : Emb Hf b 0 tbM) (hL : L_X10_doesCount a1 w = some r) : AC G M_X10_doesCount [.ref (b + 0), .int a1] (Hf w) (.inl (some (.int r.1)), Hf r.2) := by
  unfold L_X10_doesCount at hL
  refine AC.of (by decide) rfl (Nat.le_of_ble_eq_true rfl) ?_
  show AG G M_X10_doesCount 0 [some (.ref (b + 0)), some (.int (a1))] [] _ _
  refine g_aload_n dX10_doesCount_0 rfl rfl ?_
  refine s_getR (j := 6) E rfl rfl f_X10_19 dX10_doesCount_1 ?_
  refine g_iload_n dX10_doesCount_4 rfl rfl ?_
  refine s_iald (k := 1) E hL rfl dX10_doesCount_5 ?_
  intro v2 hL
  refine g_iconst (v := 1) dX10_doesCount_6 (by decide) ?_
  refine g_icmp_eq (tgt := 24) dX10_doesCount_7 (by decide) (fun q5 => ?_) (fun q5 => ?_)
  · rw [if_pos q5] at hL
    refine g_none 0 ?_
    refine g_none 1 ?_
    exact J_X10_doesCount_24_ok E hL 
  · rw [if_neg q5] at hL
    refine g_aload_n dX10_doesCount_10 rfl rfl ?_
    refine g_none 0 ?_
    refine s_getR (j := 6) E rfl rfl f_X10_19 dX10_doesCount_11 ?_
    refine g_iload_n dX10_doesCount_14 rfl rfl ?_
    refine g_none 1 ?_
    refine s_iald (k := 1) E hL rfl dX10_doesCount_15 ?_
    intro v3 hL
    refine g_iconst (v := 2) dX10_doesCount_16 (by decide) ?_
    refine g_icmp_eq (tgt := 24) dX10_doesCount_17 (by decide) (fun q4 => ?_) (fun q4 => ?_)
    · rw [if_pos q4] at hL
      exact J_X10_doesCount_24_ok E hL 
    · rw [if_neg q4] at hL
      refine g_iconst (v := 1) dX10_doesCount_20 (by decide) ?_
      refine g_goto (tgt := 25) dX10_doesCount_21 (by decide) ?_
      exact J_X10_doesCount_25_ok E hL 
def J_X10_slowestOf_44 (kh4 : Int32 → Int32 → Int32 → wS → Option (Int32 × wS)) (ke50 : Int32 → wS → Option (Int32 × wS)) (x1 : Int32) (x2 : Int32) (x3 : Int32) (w : wS) : Option (Int32 × wS) :=
  kh4 (x1) (x2) ((x3 + 1)) w
set_option maxRecDepth 20000 in
theorem J_X10_slowestOf_44_ok {G : aG} {Hf : wS → aH} {b : Nat} {kh4 : Int32 → Int32 → Int32 → wS → Option (Int32 × wS)} {ke50 : Int32 → wS → Option (Int32 × wS)} {x1 : Int32} {x2 : Int32} {x3 : Int32} {w : wS} {r : Int32 × wS} (E : Emb Hf b 0 tbM) (hL : J_X10_slowestOf_44 kh4 ke50 x1 x2 x3 w = some r) (Hkh4 : ∀ (z0 : Int32) (z1 : Int32) (z2 : Int32) (w : wS), kh4 z0 z1 z2 w = some r → AG G M_X10_slowestOf 4 [some (.ref (b + 0)), some (.int (z0)), some (.int (z1)), some (.int (z2))] [] (Hf w) (.inl (some (.int r.1)), Hf r.2)) (Hke50 : ∀ (z0 : Int32) (w : wS), ke50 z0 w = some r → AG G M_X10_slowestOf 50 [none, none, some (.int (z0)), none] [] (Hf w) (.inl (some (.int r.1)), Hf r.2)) : AG G M_X10_slowestOf 44 [some (.ref (b + 0)), some (.int (x1)), some (.int (x2)), some (.int (x3))] [] (Hf w) (.inl (some (.int r.1)), Hf r.2) := by
  unfold J_X10_slowestOf_44 at hL
  refine g_iincV (v := (x3 + 1)) dX10_slowestOf_44 rfl rfl (by decide) rfl ?_
  refine g_goto (tgt := 4) dX10_slowestOf_47 (by decide) ?_
  exact Hkh4 _ _ _ _ hL
def J_X10_slowestOf_42 (kh4 : Int32 → Int32 → Int32 → wS → Option (Int32 × wS)) (ke50 : Int32 → wS → Option (Int32 × wS)) (x1 : Int32) (x3 : Int32) (w : wS) : Option (Int32 × wS) :=
  J_X10_slowestOf_44 kh4 ke50 (x1) (x3) (x3) w
set_option maxRecDepth 20000 in
theorem J_X10_slowestOf_42_ok {G : aG} {Hf : wS → aH} {b : Nat} {kh4 : Int32 → Int32 → Int32 → wS → Option (Int32 × wS)} {ke50 : Int32 → wS → Option (Int32 × wS)} {x1 : Int32} {x3 : Int32} {w : wS} {r : Int32 × wS} (E : Emb Hf b 0 tbM) (hL : J_X10_slowestOf_42 kh4 ke50 x1 x3 w = some r) (Hkh4 : ∀ (z0 : Int32) (z1 : Int32) (z2 : Int32) (w : wS), kh4 z0 z1 z2 w = some r → AG G M_X10_slowestOf 4 [some (.ref (b + 0)), some (.int (z0)), some (.int (z1)), some (.int (z2))] [] (Hf w) (.inl (some (.int r.1)), Hf r.2)) (Hke50 : ∀ (z0 : Int32) (w : wS), ke50 z0 w = some r → AG G M_X10_slowestOf 50 [none, none, some (.int (z0)), none] [] (Hf w) (.inl (some (.int r.1)), Hf r.2)) : AG G M_X10_slowestOf 42 [some (.ref (b + 0)), some (.int (x1)), none, some (.int (x3))] [] (Hf w) (.inl (some (.int r.1)), Hf r.2) := by
  unfold J_X10_slowestOf_42 at hL
  refine g_iload_n dX10_slowestOf_42 rfl rfl ?_
  refine g_istore_n (i := 2) dX10_slowestOf_43 rfl (by decide) rfl ?_
  exact J_X10_slowestOf_44_ok E hL Hkh4 Hke50
def B_X10_slowestOf_4 (kh4 : Int32 → Int32 → Int32 → wS → Option (Int32 × wS)) (ke50 : Int32 → wS → Option (Int32 × wS)) (x1 : Int32) (x2 : Int32) (x3 : Int32) (w : wS) : Option (Int32 × wS) :=
  xB (xGet w 1) fun v1 => if v1 ≤ x3 then ke50 (x2) w else xB2 (L_X10_doesCount (x3) w) fun v2 w3 => if v2 = 0 then J_X10_slowestOf_44 kh4 ke50 (x1) (x2) (x3) w3 else if x2 = (-1) then J_X10_slowestOf_42 kh4 ke50 (x1) (x3) w3 else xB2 (L_X10_wayOf (0) (x3) (x1) w3) fun v4 w5 => xB2 (L_X10_wayOf (0) (x2) (x1) w5) fun v6 w7 => if v4 ≤ v6 then J_X10_slowestOf_44 kh4 ke50 (x1) (x2) (x3) w7 else J_X10_slowestOf_42 kh4 ke50 (x1) (x3) w7
set_option maxRecDepth 20000 in
theorem B_X10_slowestOf_4_ok {G : aG} {Hf : wS → aH} {b : Nat} {kh4 : Int32 → Int32 → Int32 → wS → Option (Int32 × wS)} {ke50 : Int32 → wS → Option (Int32 × wS)} {x1 : Int32} {x2 : Int32} {x3 : Int32} {w : wS} {r : Int32 × wS} (E : Emb Hf b 0 tbM) (hL : B_X10_slowestOf_4 kh4 ke50 x1 x2 x3 w = some r) (Hkh4 : ∀ (z0 : Int32) (z1 : Int32) (z2 : Int32) (w : wS), kh4 z0 z1 z2 w = some r → AG G M_X10_slowestOf 4 [some (.ref (b + 0)), some (.int (z0)), some (.int (z1)), some (.int (z2))] [] (Hf w) (.inl (some (.int r.1)), Hf r.2)) (Hke50 : ∀ (z0 : Int32) (w : wS), ke50 z0 w = some r → AG G M_X10_slowestOf 50 [none, none, some (.int (z0)), none] [] (Hf w) (.inl (some (.int r.1)), Hf r.2)) : AG G M_X10_slowestOf 4 [some (.ref (b + 0)), some (.int (x1)), some (.int (x2)), some (.int (x3))] [] (Hf w) (.inl (some (.int r.1)), Hf r.2) := by
  unfold B_X10_slowestOf_4 at hL
  refine g_iload_n dX10_slowestOf_4 rfl rfl ?_
  refine g_aload_n dX10_slowestOf_5 rfl rfl ?_
  refine s_getI (k := 0) (j := 1) E hL rfl rfl f_X10_278 dX10_slowestOf_6 ?_
  intro v1 hL
  refine g_icmp_ge (tgt := 50) dX10_slowestOf_9 (by decide) (fun q11 => ?_) (fun q11 => ?_)
  · rw [if_pos q11] at hL
    refine g_none 0 ?_
    refine g_none 1 ?_
    refine g_none 3 ?_
    exact Hke50 _ _ hL
  · rw [if_neg q11] at hL
    refine g_aload_n dX10_slowestOf_12 rfl rfl ?_
    refine g_iload_n dX10_slowestOf_13 rfl rfl ?_
    obtain ⟨v2, w3, hc, hL⟩ := xB2_some hL
    refine g_callV (M' := M_X10_doesCount) (as := [.int (x3)]) (v := some (.int (v2))) l_X10_367 kV_X10_doesCount (by decide) (C_X10_doesCount E hc) rfl (by have := E.1; omega) (E.2.1 _ 0 _ rfl) ⟨_, _, rfl⟩ (Nat.le_of_ble_eq_true rfl) dX10_slowestOf_14 ?_
    refine g_if_eq (tgt := 44) dX10_slowestOf_17 (by decide) (fun q10 => ?_) (fun q10 => ?_)
    · rw [if_pos q10] at hL
      exact J_X10_slowestOf_44_ok E hL Hkh4 Hke50
    · rw [if_neg q10] at hL
      refine g_iload_n dX10_slowestOf_20 rfl rfl ?_
      refine g_iconst (v := (-1)) dX10_slowestOf_21 (by decide) ?_
      refine g_icmp_eq (tgt := 42) dX10_slowestOf_22 (by decide) (fun q9 => ?_) (fun q9 => ?_)
      · rw [if_pos q9] at hL
        refine g_none 2 ?_
        exact J_X10_slowestOf_42_ok E hL Hkh4 Hke50
      · rw [if_neg q9] at hL
        refine g_aload_n dX10_slowestOf_25 rfl rfl ?_
        refine g_iconst (v := 0) dX10_slowestOf_26 (by decide) ?_
        refine g_iload_n dX10_slowestOf_27 rfl rfl ?_
        refine g_iload_n dX10_slowestOf_28 rfl rfl ?_
        obtain ⟨v4, w5, hc, hL⟩ := xB2_some hL
        refine g_callV (M' := M_X10_wayOf) (as := [.int (0), .int (x3), .int (x1)]) (v := some (.int (v4))) l_X10_315 kV_X10_wayOf (by decide) (C_X10_wayOf E hc) rfl (by have := E.1; omega) (E.2.1 _ 0 _ rfl) ⟨_, _, rfl⟩ (Nat.le_of_ble_eq_true rfl) dX10_slowestOf_29 ?_
        refine g_aload_n dX10_slowestOf_32 rfl rfl ?_
        refine g_iconst (v := 0) dX10_slowestOf_33 (by decide) ?_
        refine g_iload_n dX10_slowestOf_34 rfl rfl ?_
        refine g_iload_n dX10_slowestOf_35 rfl rfl ?_
        obtain ⟨v6, w7, hc, hL⟩ := xB2_some hL
        refine g_callV (M' := M_X10_wayOf) (as := [.int (0), .int (x2), .int (x1)]) (v := some (.int (v6))) l_X10_315 kV_X10_wayOf (by decide) (C_X10_wayOf E hc) rfl (by have := E.1; omega) (E.2.1 _ 0 _ rfl) ⟨_, _, rfl⟩ (Nat.le_of_ble_eq_true rfl) dX10_slowestOf_36 ?_
        refine g_icmp_le (tgt := 44) dX10_slowestOf_39 (by decide) (fun q8 => ?_) (fun q8 => ?_)
        · rw [if_pos q8] at hL
          exact J_X10_slowestOf_44_ok E hL Hkh4 Hke50
        · rw [if_neg q8] at hL
          refine g_none 2 ?_
          exact J_X10_slowestOf_42_ok E hL Hkh4 Hke50
def P_X10_slowestOf_4 (ke50 : Int32 → wS → Option (Int32 × wS)) (n : Nat) (x1 : Int32) (x2 : Int32) (x3 : Int32) (w : wS) : Option (Int32 × wS) :=
  xLoop (fun (kk : Int32 × Int32 × Int32 × wS → Option (Int32 × wS)) σ => B_X10_slowestOf_4 (fun x1 x2 x3 w => kk (x1, x2, x3, w)) ke50 (σ.1) (σ.2.1) (σ.2.2.1) (σ.2.2.2)) n (x1, x2, x3, w)
theorem P_X10_slowestOf_4_ok {G : aG} {Hf : wS → aH} {b : Nat} {ke50 : Int32 → wS → Option (Int32 × wS)} {n : Nat} {x1 : Int32} {x2 : Int32} {x3 : Int32} {w : wS} {r : Int32 × wS} (E : Emb Hf b 0 tbM) (hL : P_X10_slowestOf_4 ke50 n x1 x2 x3 w = some r) (Hke50 : ∀ (z0 : Int32) (w : wS), ke50 z0 w = some r → AG G M_X10_slowestOf 50 [none, none, some (.int (z0)), none] [] (Hf w) (.inl (some (.int r.1)), Hf r.2)) : AG G M_X10_slowestOf 4 [some (.ref (b + 0)), some (.int (x1)), some (.int (x2)), some (.int (x3))] [] (Hf w) (.inl (some (.int r.1)), Hf r.2) :=
  xLoop_ok (Q := fun (σ : Int32 × Int32 × Int32 × wS) => AG G M_X10_slowestOf 4 [some (.ref (b + 0)), some (.int (σ.1)), some (.int (σ.2.1)), some (.int (σ.2.2.1))] [] (Hf σ.2.2.2) (.inl (some (.int r.1)), Hf r.2)) (fun kk hk σ hσ => B_X10_slowestOf_4_ok E hσ (fun x1 x2 x3 w h9 => hk (x1, x2, x3, w) h9) Hke50) n (x1, x2, x3, w) hL
def L_X10_slowestOf (a1 : Int32) (w : wS) : Option (Int32 × wS) :=
  P_X10_slowestOf_4 (fun z12 w13 => some (z12, w13)) 5000 (a1) ((-1)) (0) w
set_option maxRecDepth 20000 in
theorem C_X10_slowestOf {G : aG} {Hf : wS → aH} {b : Nat} {a1 : Int32} {w : wS} {r : Int32 × wS} (E : Emb Hf b 0 tbM) (hL : L_X10_slowestOf a1 w = some r) : AC G M_X10_slowestOf [.ref (b + 0), .int a1] (Hf w) (.inl (some (.int r.1)), Hf r.2) := by
  unfold L_X10_slowestOf at hL
  refine AC.of (by decide) rfl (Nat.le_of_ble_eq_true rfl) ?_
  show AG G M_X10_slowestOf 0 [some (.ref (b + 0)), some (.int (a1)), none, none] [] _ _
  refine g_iconst (v := (-1)) dX10_slowestOf_0 (by decide) ?_
  refine g_istore_n (i := 2) dX10_slowestOf_1 rfl (by decide) rfl ?_
  refine g_iconst (v := 0) dX10_slowestOf_2 (by decide) ?_
  refine g_istore_n (i := 3) dX10_slowestOf_3 rfl (by decide) rfl ?_
  refine P_X10_slowestOf_4_ok E hL ?_
  · intro z12 w13 hL
    refine g_iload_n dX10_slowestOf_50 rfl rfl ?_
    refine g_none 2 ?_
    obtain rfl := Option.some.inj hL
    exact g_iret rfl dX10_slowestOf_51
def J_X10_person_23 (w : wS) : Option (Int32 × wS) :=
  some (0, w)
set_option maxRecDepth 20000 in
theorem J_X10_person_23_ok {G : aG} {Hf : wS → aH} {b : Nat} {w : wS} {r : Int32 × wS} (E : Emb Hf b 0 tbM) (hL : J_X10_person_23   w = some r) : AG G M_X10_person 23 [none, none, none] [] (Hf w) (.inl (some (.int r.1)), Hf r.2) := by
  unfold J_X10_person_23 at hL
  refine g_iconst (v := 0) dX10_person_23 (by decide) ?_
  obtain rfl := Option.some.inj hL
  exact g_iret rfl dX10_person_24
def L_X10_person (a1 : Int32) (a2 : Int32) (w : wS) : Option (Int32 × wS) :=
  xB (xPut w 0 (0)) fun w1 => xB2 (L_X10_isPerson (a1) w1) fun v2 w3 => if v2 = 0 then J_X10_person_23   w3 else xB2 (L_X10_isWhat (a2) (6) w3) fun v4 w5 => if v4 = 0 then J_X10_person_23   w5 else if a2 = 0 then xB (xAld w5 2 8 (a1)) fun v7 => some (v7, w5) else if a2 = 1 then xB (xAld w5 16 66 ((3 + a1))) fun v9 => some (v9, w5) else if a2 = 2 then xB (xAld w5 3 8 (a1)) fun v11 => some (v11, w5) else if a2 = 3 then xB (xAld w5 16 66 ((11 + a1))) fun v13 => some (v13, w5) else if a2 = 4 then xB (xAld w5 16 66 ((19 + a1))) fun v15 => some (v15, w5) else if a2 = 5 then xB (xAld w5 1 8 (a1)) fun v17 => some (v17, w5) else xB (xAld w5 16 66 (2)) fun v18 => some (((v18 >>> (a1 &&& 31)) &&& 1), w5)
set_option maxRecDepth 20000 in
theorem C_X10_person {G : aG} {Hf : wS → aH} {b : Nat} {a1 : Int32} {a2 : Int32} {w : wS} {r : Int32 × wS} (E : Emb Hf b 0 tbM) (hL : L_X10_person a1 a2 w = some r) : AC G M_X10_person [.ref (b + 0), .int a1, .int a2] (Hf w) (.inl (some (.int r.1)), Hf r.2) := by
  unfold L_X10_person at hL
  refine AC.of (by decide) rfl (Nat.le_of_ble_eq_true rfl) ?_
  show AG G M_X10_person 0 [some (.ref (b + 0)), some (.int (a1)), some (.int (a2))] [] _ _
  refine g_aload_n dX10_person_0 rfl rfl ?_
  refine g_iconst (v := 0) dX10_person_1 (by decide) ?_
  refine s_putI (k := 0) (j := 0) E hL rfl rfl (by decide) fw_X10_120 rfl rfl dX10_person_2 ?_
  intro w1 hL
  refine g_aload_n dX10_person_5 rfl rfl ?_
  refine g_iload_n dX10_person_6 rfl rfl ?_
  obtain ⟨v2, w3, hc, hL⟩ := xB2_some hL
  refine g_callV (M' := M_X10_isPerson) (as := [.int (a1)]) (v := some (.int (v2))) l_X10_370 kV_X10_isPerson (by decide) (C_X10_isPerson E hc) rfl (by have := E.1; omega) (E.2.1 _ 0 _ rfl) ⟨_, _, rfl⟩ (Nat.le_of_ble_eq_true rfl) dX10_person_7 ?_
  refine g_if_eq (tgt := 23) dX10_person_10 (by decide) (fun q20 => ?_) (fun q20 => ?_)
  · rw [if_pos q20] at hL
    refine g_none 0 ?_
    refine g_none 1 ?_
    refine g_none 2 ?_
    exact J_X10_person_23_ok E hL 
  · rw [if_neg q20] at hL
    refine g_aload_n dX10_person_13 rfl rfl ?_
    refine g_iload_n dX10_person_14 rfl rfl ?_
    refine g_bipush (v := 6) dX10_person_15 (by decide) ?_
    obtain ⟨v4, w5, hc, hL⟩ := xB2_some hL
    refine g_callV (M' := M_X10_isWhat) (as := [.int (a2), .int (6)]) (v := some (.int (v4))) l_X10_373 kV_X10_isWhat (by decide) (C_X10_isWhat E hc) rfl (by have := E.1; omega) (E.2.1 _ 0 _ rfl) ⟨_, _, rfl⟩ (Nat.le_of_ble_eq_true rfl) dX10_person_17 ?_
    refine g_if_ne (tgt := 25) dX10_person_20 (by decide) (fun q19 => ?_) (fun q19 => ?_)
    · rw [if_neg q19] at hL
      refine g_iload_n dX10_person_25 rfl rfl ?_
      refine g_none 2 ?_
      by_cases q6 : a2 = 0
      · rw [if_pos q6] at hL
        refine g_tableIn (off := 38) (tgt := 64) dX10_person_26 (by rw [q6]; decide) (by rw [q6]; decide) (by rw [q6]; decide +kernel) (by decide) ?_
        refine g_aload_n dX10_person_64 rfl rfl ?_
        refine g_none 0 ?_
        refine s_getR (j := 7) E rfl rfl f_X10_23 dX10_person_65 ?_
        refine g_iload_n dX10_person_68 rfl rfl ?_
        refine g_none 1 ?_
        refine s_iald (k := 2) E hL rfl dX10_person_69 ?_
        intro v7 hL
        obtain rfl := Option.some.inj hL
        exact g_iret rfl dX10_person_70
      rw [if_neg q6] at hL
      by_cases q8 : a2 = 1
      · rw [if_pos q8] at hL
        refine g_tableIn (off := 45) (tgt := 71) dX10_person_26 (by rw [q8]; decide) (by rw [q8]; decide) (by rw [q8]; decide +kernel) (by decide) ?_
        refine g_aload_n dX10_person_71 rfl rfl ?_
        refine g_none 0 ?_
        refine s_getR (j := 41) E rfl rfl f_X10_69 dX10_person_72 ?_
        refine g_iconst (v := 3) dX10_person_75 (by decide) ?_
        refine g_iload_n dX10_person_76 rfl rfl ?_
        refine g_none 1 ?_
        refine g_iadd dX10_person_77 ?_
        refine s_iald (k := 16) E hL rfl dX10_person_78 ?_
        intro v9 hL
        obtain rfl := Option.some.inj hL
        exact g_iret rfl dX10_person_79
      rw [if_neg q8] at hL
      by_cases q10 : a2 = 2
      · rw [if_pos q10] at hL
        refine g_tableIn (off := 54) (tgt := 80) dX10_person_26 (by rw [q10]; decide) (by rw [q10]; decide) (by rw [q10]; decide +kernel) (by decide) ?_
        refine g_aload_n dX10_person_80 rfl rfl ?_
        refine g_none 0 ?_
        refine s_getR (j := 8) E rfl rfl f_X10_26 dX10_person_81 ?_
        refine g_iload_n dX10_person_84 rfl rfl ?_
        refine g_none 1 ?_
        refine s_iald (k := 3) E hL rfl dX10_person_85 ?_
        intro v11 hL
        obtain rfl := Option.some.inj hL
        exact g_iret rfl dX10_person_86
      rw [if_neg q10] at hL
      by_cases q12 : a2 = 3
      · rw [if_pos q12] at hL
        refine g_tableIn (off := 61) (tgt := 87) dX10_person_26 (by rw [q12]; decide) (by rw [q12]; decide) (by rw [q12]; decide +kernel) (by decide) ?_
        refine g_aload_n dX10_person_87 rfl rfl ?_
        refine g_none 0 ?_
        refine s_getR (j := 41) E rfl rfl f_X10_69 dX10_person_88 ?_
        refine g_bipush (v := 11) dX10_person_91 (by decide) ?_
        refine g_iload_n dX10_person_93 rfl rfl ?_
        refine g_none 1 ?_
        refine g_iadd dX10_person_94 ?_
        refine s_iald (k := 16) E hL rfl dX10_person_95 ?_
        intro v13 hL
        obtain rfl := Option.some.inj hL
        exact g_iret rfl dX10_person_96
      rw [if_neg q12] at hL
      by_cases q14 : a2 = 4
      · rw [if_pos q14] at hL
        refine g_tableIn (off := 71) (tgt := 97) dX10_person_26 (by rw [q14]; decide) (by rw [q14]; decide) (by rw [q14]; decide +kernel) (by decide) ?_
        refine g_aload_n dX10_person_97 rfl rfl ?_
        refine g_none 0 ?_
        refine s_getR (j := 41) E rfl rfl f_X10_69 dX10_person_98 ?_
        refine g_bipush (v := 19) dX10_person_101 (by decide) ?_
        refine g_iload_n dX10_person_103 rfl rfl ?_
        refine g_none 1 ?_
        refine g_iadd dX10_person_104 ?_
        refine s_iald (k := 16) E hL rfl dX10_person_105 ?_
        intro v15 hL
        obtain rfl := Option.some.inj hL
        exact g_iret rfl dX10_person_106
      rw [if_neg q14] at hL
      by_cases q16 : a2 = 5
      · rw [if_pos q16] at hL
        refine g_tableIn (off := 81) (tgt := 107) dX10_person_26 (by rw [q16]; decide) (by rw [q16]; decide) (by rw [q16]; decide +kernel) (by decide) ?_
        refine g_aload_n dX10_person_107 rfl rfl ?_
        refine g_none 0 ?_
        refine s_getR (j := 6) E rfl rfl f_X10_19 dX10_person_108 ?_
        refine g_iload_n dX10_person_111 rfl rfl ?_
        refine g_none 1 ?_
        refine s_iald (k := 1) E hL rfl dX10_person_112 ?_
        intro v17 hL
        obtain rfl := Option.some.inj hL
        exact g_iret rfl dX10_person_113
      rw [if_neg q16] at hL
      refine g_tableOut (tgt := 114) dX10_person_26 (i32_out (x := a2) (0) (5) (fun z hz1 hz2 => ?_)) (by decide) ?_
      · rcases (show z = 0 ∨ z = 1 ∨ z = 2 ∨ z = 3 ∨ z = 4 ∨ z = 5 by omega) with rfl | rfl | rfl | rfl | rfl | rfl
        · exact q6
        · exact q8
        · exact q10
        · exact q12
        · exact q14
        · exact q16
      · refine g_aload_n dX10_person_114 rfl rfl ?_
        refine g_none 0 ?_
        refine s_getR (j := 41) E rfl rfl f_X10_69 dX10_person_115 ?_
        refine g_iconst (v := 2) dX10_person_118 (by decide) ?_
        refine s_iald (k := 16) E hL rfl dX10_person_119 ?_
        intro v18 hL
        refine g_iload_n dX10_person_120 rfl rfl ?_
        refine g_none 1 ?_
        refine g_ishr dX10_person_121 ?_
        refine g_iconst (v := 1) dX10_person_122 (by decide) ?_
        refine g_iand dX10_person_123 ?_
        obtain rfl := Option.some.inj hL
        exact g_iret rfl dX10_person_124
    · rw [if_pos q19] at hL
      refine g_none 0 ?_
      refine g_none 1 ?_
      refine g_none 2 ?_
      exact J_X10_person_23_ok E hL 
def J_X10_duty_59 (y0 : Int32) (w : wS) : Option (Int32 × wS) :=
  some (y0, w)
set_option maxRecDepth 20000 in
theorem J_X10_duty_59_ok {G : aG} {Hf : wS → aH} {b : Nat} {y0 : Int32} {w : wS} {r : Int32 × wS} (E : Emb Hf b 0 tbM) (hL : J_X10_duty_59  y0 w = some r) : AG G M_X10_duty 59 [none, none, none] [.int (y0)] (Hf w) (.inl (some (.int r.1)), Hf r.2) := by
  unfold J_X10_duty_59 at hL
  obtain rfl := Option.some.inj hL
  exact g_iret rfl dX10_duty_59
def J_X10_duty_22 (w : wS) : Option (Int32 × wS) :=
  some (0, w)
set_option maxRecDepth 20000 in
theorem J_X10_duty_22_ok {G : aG} {Hf : wS → aH} {b : Nat} {w : wS} {r : Int32 × wS} (E : Emb Hf b 0 tbM) (hL : J_X10_duty_22   w = some r) : AG G M_X10_duty 22 [none, none, none] [] (Hf w) (.inl (some (.int r.1)), Hf r.2) := by
  unfold J_X10_duty_22 at hL
  refine g_iconst (v := 0) dX10_duty_22 (by decide) ?_
  obtain rfl := Option.some.inj hL
  exact g_iret rfl dX10_duty_23
def L_X10_duty (a1 : Int32) (a2 : Int32) (w : wS) : Option (Int32 × wS) :=
  xB (xPut w 0 (0)) fun w1 => xB2 (L_X10_isDuty (a1) w1) fun v2 w3 => if v2 = 0 then J_X10_duty_22   w3 else xB2 (L_X10_isWhat (a2) (2) w3) fun v4 w5 => if v4 = 0 then J_X10_duty_22   w5 else if a2 = 0 then xB (xAld w5 16 66 ((27 + a1))) fun v10 => J_X10_duty_59  (v10) w5 else if a2 = 1 then xB (xAld w5 4 6 (a1)) fun v8 => J_X10_duty_59  (v8) w5 else xB2 (L_X10_slowestOf (a1) w5) fun v6 w7 => J_X10_duty_59  (v6) w7
set_option maxRecDepth 20000 in
theorem C_X10_duty {G : aG} {Hf : wS → aH} {b : Nat} {a1 : Int32} {a2 : Int32} {w : wS} {r : Int32 × wS} (E : Emb Hf b 0 tbM) (hL : L_X10_duty a1 a2 w = some r) : AC G M_X10_duty [.ref (b + 0), .int a1, .int a2] (Hf w) (.inl (some (.int r.1)), Hf r.2) := by
  unfold L_X10_duty at hL
  refine AC.of (by decide) rfl (Nat.le_of_ble_eq_true rfl) ?_
  show AG G M_X10_duty 0 [some (.ref (b + 0)), some (.int (a1)), some (.int (a2))] [] _ _
  refine g_aload_n dX10_duty_0 rfl rfl ?_
  refine g_iconst (v := 0) dX10_duty_1 (by decide) ?_
  refine s_putI (k := 0) (j := 0) E hL rfl rfl (by decide) fw_X10_120 rfl rfl dX10_duty_2 ?_
  intro w1 hL
  refine g_aload_n dX10_duty_5 rfl rfl ?_
  refine g_iload_n dX10_duty_6 rfl rfl ?_
  obtain ⟨v2, w3, hc, hL⟩ := xB2_some hL
  refine g_callV (M' := M_X10_isDuty) (as := [.int (a1)]) (v := some (.int (v2))) l_X10_376 kV_X10_isDuty (by decide) (C_X10_isDuty E hc) rfl (by have := E.1; omega) (E.2.1 _ 0 _ rfl) ⟨_, _, rfl⟩ (Nat.le_of_ble_eq_true rfl) dX10_duty_7 ?_
  refine g_if_eq (tgt := 22) dX10_duty_10 (by decide) (fun q13 => ?_) (fun q13 => ?_)
  · rw [if_pos q13] at hL
    refine g_none 0 ?_
    refine g_none 1 ?_
    refine g_none 2 ?_
    exact J_X10_duty_22_ok E hL 
  · rw [if_neg q13] at hL
    refine g_aload_n dX10_duty_13 rfl rfl ?_
    refine g_iload_n dX10_duty_14 rfl rfl ?_
    refine g_iconst (v := 2) dX10_duty_15 (by decide) ?_
    obtain ⟨v4, w5, hc, hL⟩ := xB2_some hL
    refine g_callV (M' := M_X10_isWhat) (as := [.int (a2), .int (2)]) (v := some (.int (v4))) l_X10_373 kV_X10_isWhat (by decide) (C_X10_isWhat E hc) rfl (by have := E.1; omega) (E.2.1 _ 0 _ rfl) ⟨_, _, rfl⟩ (Nat.le_of_ble_eq_true rfl) dX10_duty_16 ?_
    refine g_if_ne (tgt := 24) dX10_duty_19 (by decide) (fun q12 => ?_) (fun q12 => ?_)
    · rw [if_neg q12] at hL
      refine g_iload_n dX10_duty_24 rfl rfl ?_
      refine g_if_ne (tgt := 40) dX10_duty_25 (by decide) (fun q11 => ?_) (fun q11 => ?_)
      · rw [if_neg q11] at hL
        refine g_iload_n dX10_duty_40 rfl rfl ?_
        refine g_none 2 ?_
        refine g_iconst (v := 1) dX10_duty_41 (by decide) ?_
        refine g_icmp_ne (tgt := 54) dX10_duty_42 (by decide) (fun q9 => ?_) (fun q9 => ?_)
        · rw [if_neg q9] at hL
          refine g_aload_n dX10_duty_54 rfl rfl ?_
          refine g_none 0 ?_
          refine g_iload_n dX10_duty_55 rfl rfl ?_
          refine g_none 1 ?_
          obtain ⟨v6, w7, hc, hL⟩ := xB2_some hL
          refine g_callV (M' := M_X10_slowestOf) (as := [.int (a1)]) (v := some (.int (v6))) l_X10_379 kV_X10_slowestOf (by decide) (C_X10_slowestOf E hc) rfl (by have := E.1; omega) (E.2.1 _ 0 _ rfl) ⟨_, _, rfl⟩ (Nat.le_of_ble_eq_true rfl) dX10_duty_56 ?_
          exact J_X10_duty_59_ok E hL 
        · rw [if_pos q9] at hL
          refine g_aload_n dX10_duty_45 rfl rfl ?_
          refine g_none 0 ?_
          refine s_getR (j := 9) E rfl rfl f_X10_29 dX10_duty_46 ?_
          refine g_iload_n dX10_duty_49 rfl rfl ?_
          refine g_none 1 ?_
          refine s_iald (k := 4) E hL rfl dX10_duty_50 ?_
          intro v8 hL
          refine g_goto (tgt := 59) dX10_duty_51 (by decide) ?_
          exact J_X10_duty_59_ok E hL 
      · rw [if_pos q11] at hL
        refine g_none 2 ?_
        refine g_aload_n dX10_duty_28 rfl rfl ?_
        refine g_none 0 ?_
        refine s_getR (j := 41) E rfl rfl f_X10_69 dX10_duty_29 ?_
        refine g_bipush (v := 27) dX10_duty_32 (by decide) ?_
        refine g_iload_n dX10_duty_34 rfl rfl ?_
        refine g_none 1 ?_
        refine g_iadd dX10_duty_35 ?_
        refine s_iald (k := 16) E hL rfl dX10_duty_36 ?_
        intro v10 hL
        refine g_goto (tgt := 59) dX10_duty_37 (by decide) ?_
        exact J_X10_duty_59_ok E hL 
    · rw [if_pos q12] at hL
      refine g_none 0 ?_
      refine g_none 1 ?_
      refine g_none 2 ?_
      exact J_X10_duty_22_ok E hL 
def B_X10_days_41 (kh41 : Int32 → Int32 → wS → Option (Int32 × wS)) (ke57 : wS → Option (Int32 × wS)) (x1 : Int32) (x2 : Int32) (w : wS) : Option (Int32 × wS) :=
  if x1 ≤ x2 then ke57  w else xB (L_X10_dayGoes (0) w) fun w1 => kh41 (x1) ((x2 + 1)) w1
set_option maxRecDepth 20000 in
theorem B_X10_days_41_ok {G : aG} {Hf : wS → aH} {b : Nat} {kh41 : Int32 → Int32 → wS → Option (Int32 × wS)} {ke57 : wS → Option (Int32 × wS)} {x1 : Int32} {x2 : Int32} {w : wS} {r : Int32 × wS} (E : Emb Hf b 0 tbM) (hL : B_X10_days_41 kh41 ke57 x1 x2 w = some r) (Hkh41 : ∀ (z0 : Int32) (z1 : Int32) (w : wS), kh41 z0 z1 w = some r → AG G M_X10_days 41 [some (.ref (b + 0)), some (.int (z0)), some (.int (z1))] [] (Hf w) (.inl (some (.int r.1)), Hf r.2)) (Hke57 : ∀ (w : wS), ke57  w = some r → AG G M_X10_days 57 [some (.ref (b + 0)), none, none] [] (Hf w) (.inl (some (.int r.1)), Hf r.2)) : AG G M_X10_days 41 [some (.ref (b + 0)), some (.int (x1)), some (.int (x2))] [] (Hf w) (.inl (some (.int r.1)), Hf r.2) := by
  unfold B_X10_days_41 at hL
  refine g_iload_n dX10_days_41 rfl rfl ?_
  refine g_iload_n dX10_days_42 rfl rfl ?_
  refine g_icmp_ge (tgt := 57) dX10_days_43 (by decide) (fun q2 => ?_) (fun q2 => ?_)
  · rw [if_pos q2] at hL
    refine g_none 1 ?_
    refine g_none 2 ?_
    exact Hke57  _ hL
  · rw [if_neg q2] at hL
    refine g_aload_n dX10_days_46 rfl rfl ?_
    refine g_iconst (v := 0) dX10_days_47 (by decide) ?_
    obtain ⟨w1, hc, hL⟩ := xB_some hL
    refine g_callV (M' := M_X10_dayGoes) (as := [.int (0)]) (v := none) l_X10_358 kV_X10_dayGoes (by decide) (C_X10_dayGoes E hc) rfl (by have := E.1; omega) (E.2.1 _ 0 _ rfl) ⟨_, _, rfl⟩ (Nat.le_of_ble_eq_true rfl) dX10_days_48 ?_
    refine g_iincV (v := (x2 + 1)) dX10_days_51 rfl rfl (by decide) rfl ?_
    refine g_goto (tgt := 41) dX10_days_54 (by decide) ?_
    exact Hkh41 _ _ _ hL
def P_X10_days_41 (ke57 : wS → Option (Int32 × wS)) (n : Nat) (x1 : Int32) (x2 : Int32) (w : wS) : Option (Int32 × wS) :=
  xLoop (fun (kk : Int32 × Int32 × wS → Option (Int32 × wS)) σ => B_X10_days_41 (fun x1 x2 w => kk (x1, x2, w)) ke57 (σ.1) (σ.2.1) (σ.2.2)) n (x1, x2, w)
theorem P_X10_days_41_ok {G : aG} {Hf : wS → aH} {b : Nat} {ke57 : wS → Option (Int32 × wS)} {n : Nat} {x1 : Int32} {x2 : Int32} {w : wS} {r : Int32 × wS} (E : Emb Hf b 0 tbM) (hL : P_X10_days_41 ke57 n x1 x2 w = some r) (Hke57 : ∀ (w : wS), ke57  w = some r → AG G M_X10_days 57 [some (.ref (b + 0)), none, none] [] (Hf w) (.inl (some (.int r.1)), Hf r.2)) : AG G M_X10_days 41 [some (.ref (b + 0)), some (.int (x1)), some (.int (x2))] [] (Hf w) (.inl (some (.int r.1)), Hf r.2) :=
  xLoop_ok (Q := fun (σ : Int32 × Int32 × wS) => AG G M_X10_days 41 [some (.ref (b + 0)), some (.int (σ.1)), some (.int (σ.2.1))] [] (Hf σ.2.2) (.inl (some (.int r.1)), Hf r.2)) (fun kk hk σ hσ => B_X10_days_41_ok E hσ (fun x1 x2 w h9 => hk (x1, x2, w) h9) Hke57) n (x1, x2, w) hL
def J_X10_days_29 (w : wS) : Option (Int32 × wS) :=
  xB2 (L_X10_refuses (1) w) fun v3 w4 => some (v3, w4)
set_option maxRecDepth 20000 in
theorem J_X10_days_29_ok {G : aG} {Hf : wS → aH} {b : Nat} {w : wS} {r : Int32 × wS} (E : Emb Hf b 0 tbM) (hL : J_X10_days_29   w = some r) : AG G M_X10_days 29 [some (.ref (b + 0)), none, none] [] (Hf w) (.inl (some (.int r.1)), Hf r.2) := by
  unfold J_X10_days_29 at hL
  refine g_aload_n dX10_days_29 rfl rfl ?_
  refine g_none 0 ?_
  refine g_iconst (v := 1) dX10_days_30 (by decide) ?_
  obtain ⟨v3, w4, hc, hL⟩ := xB2_some hL
  refine g_callV (M' := M_X10_refuses) (as := [.int (1)]) (v := some (.int (v3))) l_X10_382 kV_X10_refuses (by decide) (C_X10_refuses E hc) rfl (by have := E.1; omega) (E.2.1 _ 0 _ rfl) ⟨_, _, rfl⟩ (Nat.le_of_ble_eq_true rfl) dX10_days_31 ?_
  obtain rfl := Option.some.inj hL
  exact g_iret rfl dX10_days_34
def L_X10_days (a1 : Int32) (w : wS) : Option (Int32 × wS) :=
  xB (xPut w 0 (0)) fun w5 => xB (L_X10_within (a1) (1) (20)) fun v6 => if v6 = 0 then J_X10_days_29   w5 else xB (xAld w5 16 66 (0)) fun v7 => if (v7 + a1) ≤ 999 then xB (L_X10_keeps  w5) fun w8 => P_X10_days_41 (fun w9 => xB (xAld w9 16 66 (0)) fun v10 => some (v10, w9)) 5000 (a1) (0) w8 else J_X10_days_29   w5
set_option maxRecDepth 20000 in
theorem C_X10_days {G : aG} {Hf : wS → aH} {b : Nat} {a1 : Int32} {w : wS} {r : Int32 × wS} (E : Emb Hf b 0 tbM) (hL : L_X10_days a1 w = some r) : AC G M_X10_days [.ref (b + 0), .int a1] (Hf w) (.inl (some (.int r.1)), Hf r.2) := by
  unfold L_X10_days at hL
  refine AC.of (by decide) rfl (Nat.le_of_ble_eq_true rfl) ?_
  show AG G M_X10_days 0 [some (.ref (b + 0)), some (.int (a1)), none] [] _ _
  refine g_aload_n dX10_days_0 rfl rfl ?_
  refine g_iconst (v := 0) dX10_days_1 (by decide) ?_
  refine s_putI (k := 0) (j := 0) E hL rfl rfl (by decide) fw_X10_120 rfl rfl dX10_days_2 ?_
  intro w5 hL
  refine g_iload_n dX10_days_5 rfl rfl ?_
  refine g_iconst (v := 1) dX10_days_6 (by decide) ?_
  refine g_bipush (v := 20) dX10_days_7 (by decide) ?_
  obtain ⟨v6, hc, hL⟩ := xB_some hL
  refine g_callS (M' := M_X10_within) (as := [.int (a1), .int (1), .int (20)]) (v := some (.int (v6))) l_X10_361 kS_X10_within (by decide) (C_X10_within hc) rfl (Nat.le_of_ble_eq_true rfl) dX10_days_9 ?_
  refine g_if_eq (tgt := 29) dX10_days_12 (by decide) (fun q12 => ?_) (fun q12 => ?_)
  · rw [if_pos q12] at hL
    refine g_none 1 ?_
    exact J_X10_days_29_ok E hL 
  · rw [if_neg q12] at hL
    refine g_aload_n dX10_days_15 rfl rfl ?_
    refine s_getR (j := 41) E rfl rfl f_X10_69 dX10_days_16 ?_
    refine g_iconst (v := 0) dX10_days_19 (by decide) ?_
    refine s_iald (k := 16) E hL rfl dX10_days_20 ?_
    intro v7 hL
    refine g_iload_n dX10_days_21 rfl rfl ?_
    refine g_iadd dX10_days_22 ?_
    refine g_sipush (v := 999) dX10_days_23 (by decide) ?_
    refine g_icmp_le (tgt := 35) dX10_days_26 (by decide) (fun q11 => ?_) (fun q11 => ?_)
    · rw [if_pos q11] at hL
      refine g_aload_n dX10_days_35 rfl rfl ?_
      obtain ⟨w8, hc, hL⟩ := xB_some hL
      refine g_callV (M' := M_X10_keeps) (as := []) (v := none) l_X10_385 kV_X10_keeps (by decide) (C_X10_keeps E hc) rfl (by have := E.1; omega) (E.2.1 _ 0 _ rfl) ⟨_, _, rfl⟩ (Nat.le_of_ble_eq_true rfl) dX10_days_36 ?_
      refine g_iconst (v := 0) dX10_days_39 (by decide) ?_
      refine g_istore_n (i := 2) dX10_days_40 rfl (by decide) rfl ?_
      refine P_X10_days_41_ok E hL ?_
      · intro w9 hL
        refine g_aload_n dX10_days_57 rfl rfl ?_
        refine g_none 0 ?_
        refine s_getR (j := 41) E rfl rfl f_X10_69 dX10_days_58 ?_
        refine g_iconst (v := 0) dX10_days_61 (by decide) ?_
        refine s_iald (k := 16) E hL rfl dX10_days_62 ?_
        intro v10 hL
        obtain rfl := Option.some.inj hL
        exact g_iret rfl dX10_days_63
    · rw [if_neg q11] at hL
      refine g_none 1 ?_
      exact J_X10_days_29_ok E hL 
def L_X10_hurry (a1 : Int32) (a2 : Int32) (w : wS) : Option (Int32 × wS) :=
  xB (xPut w 0 (0)) fun w1 => xB2 (L_X10_isPerson (a1) w1) fun v2 w3 => if v2 = 0 then some (0, w3) else xB (L_X10_within (a2) (0) (60)) fun v4 => if v4 = 0 then xB2 (L_X10_refuses (1) w3) fun v8 w9 => some (v8, w9) else xB (L_X10_keeps  w3) fun w5 => xB (xAld w5 16 66 ((3 + a1))) fun v6 => xB (xAst w5 16 66 ((3 + a1)) (a2)) fun w7 => some (v6, w7)
set_option maxRecDepth 20000 in
theorem C_X10_hurry {G : aG} {Hf : wS → aH} {b : Nat} {a1 : Int32} {a2 : Int32} {w : wS} {r : Int32 × wS} (E : Emb Hf b 0 tbM) (hL : L_X10_hurry a1 a2 w = some r) : AC G M_X10_hurry [.ref (b + 0), .int a1, .int a2] (Hf w) (.inl (some (.int r.1)), Hf r.2) := by
  unfold L_X10_hurry at hL
  refine AC.of (by decide) rfl (Nat.le_of_ble_eq_true rfl) ?_
  show AG G M_X10_hurry 0 [some (.ref (b + 0)), some (.int (a1)), some (.int (a2)), none] [] _ _
  refine g_aload_n dX10_hurry_0 rfl rfl ?_
  refine g_iconst (v := 0) dX10_hurry_1 (by decide) ?_
  refine s_putI (k := 0) (j := 0) E hL rfl rfl (by decide) fw_X10_120 rfl rfl dX10_hurry_2 ?_
  intro w1 hL
  refine g_aload_n dX10_hurry_5 rfl rfl ?_
  refine g_iload_n dX10_hurry_6 rfl rfl ?_
  obtain ⟨v2, w3, hc, hL⟩ := xB2_some hL
  refine g_callV (M' := M_X10_isPerson) (as := [.int (a1)]) (v := some (.int (v2))) l_X10_370 kV_X10_isPerson (by decide) (C_X10_isPerson E hc) rfl (by have := E.1; omega) (E.2.1 _ 0 _ rfl) ⟨_, _, rfl⟩ (Nat.le_of_ble_eq_true rfl) dX10_hurry_7 ?_
  refine g_if_ne (tgt := 15) dX10_hurry_10 (by decide) (fun q11 => ?_) (fun q11 => ?_)
  · rw [if_neg q11] at hL
    refine g_iload_n dX10_hurry_15 rfl rfl ?_
    refine g_iconst (v := 0) dX10_hurry_16 (by decide) ?_
    refine g_bipush (v := 60) dX10_hurry_17 (by decide) ?_
    obtain ⟨v4, hc, hL⟩ := xB_some hL
    refine g_callS (M' := M_X10_within) (as := [.int (a2), .int (0), .int (60)]) (v := some (.int (v4))) l_X10_361 kS_X10_within (by decide) (C_X10_within hc) rfl (Nat.le_of_ble_eq_true rfl) dX10_hurry_19 ?_
    refine g_if_ne (tgt := 31) dX10_hurry_22 (by decide) (fun q10 => ?_) (fun q10 => ?_)
    · rw [if_neg q10] at hL
      refine g_aload_n dX10_hurry_31 rfl rfl ?_
      obtain ⟨w5, hc, hL⟩ := xB_some hL
      refine g_callV (M' := M_X10_keeps) (as := []) (v := none) l_X10_385 kV_X10_keeps (by decide) (C_X10_keeps E hc) rfl (by have := E.1; omega) (E.2.1 _ 0 _ rfl) ⟨_, _, rfl⟩ (Nat.le_of_ble_eq_true rfl) dX10_hurry_32 ?_
      refine g_aload_n dX10_hurry_35 rfl rfl ?_
      refine s_getR (j := 41) E rfl rfl f_X10_69 dX10_hurry_36 ?_
      refine g_iconst (v := 3) dX10_hurry_39 (by decide) ?_
      refine g_iload_n dX10_hurry_40 rfl rfl ?_
      refine g_iadd dX10_hurry_41 ?_
      refine s_iald (k := 16) E hL rfl dX10_hurry_42 ?_
      intro v6 hL
      refine g_istore_n (i := 3) dX10_hurry_43 rfl (by decide) rfl ?_
      refine g_aload_n dX10_hurry_44 rfl rfl ?_
      refine g_none 0 ?_
      refine s_getR (j := 41) E rfl rfl f_X10_69 dX10_hurry_45 ?_
      refine g_iconst (v := 3) dX10_hurry_48 (by decide) ?_
      refine g_iload_n dX10_hurry_49 rfl rfl ?_
      refine g_none 1 ?_
      refine g_iadd dX10_hurry_50 ?_
      refine g_iload_n dX10_hurry_51 rfl rfl ?_
      refine g_none 2 ?_
      refine s_iast (k := 16) E hL rfl dX10_hurry_52 ?_
      intro w7 hL
      refine g_iload_n dX10_hurry_53 rfl rfl ?_
      refine g_none 3 ?_
      obtain rfl := Option.some.inj hL
      exact g_iret rfl dX10_hurry_54
    · rw [if_pos q10] at hL
      refine g_none 1 ?_
      refine g_none 2 ?_
      refine g_aload_n dX10_hurry_25 rfl rfl ?_
      refine g_none 0 ?_
      refine g_iconst (v := 1) dX10_hurry_26 (by decide) ?_
      obtain ⟨v8, w9, hc, hL⟩ := xB2_some hL
      refine g_callV (M' := M_X10_refuses) (as := [.int (1)]) (v := some (.int (v8))) l_X10_382 kV_X10_refuses (by decide) (C_X10_refuses E hc) rfl (by have := E.1; omega) (E.2.1 _ 0 _ rfl) ⟨_, _, rfl⟩ (Nat.le_of_ble_eq_true rfl) dX10_hurry_27 ?_
      obtain rfl := Option.some.inj hL
      exact g_iret rfl dX10_hurry_30
  · rw [if_pos q11] at hL
    refine g_none 0 ?_
    refine g_none 1 ?_
    refine g_none 2 ?_
    refine g_iconst (v := 0) dX10_hurry_13 (by decide) ?_
    obtain rfl := Option.some.inj hL
    exact g_iret rfl dX10_hurry_14
def J_X10_ill_51 (y0 : Int32) (w : wS) : Option (Int32 × wS) :=
  xB (xBool (y0)) fun v1 => some (v1, w)
set_option maxRecDepth 20000 in
theorem J_X10_ill_51_ok {G : aG} {Hf : wS → aH} {b : Nat} {y0 : Int32} {w : wS} {r : Int32 × wS} (E : Emb Hf b 0 tbM) (hL : J_X10_ill_51  y0 w = some r) : AG G M_X10_ill 51 [none, none, none] [.int (y0)] (Hf w) (.inl (some (.int r.1)), Hf r.2) := by
  unfold J_X10_ill_51 at hL
  obtain ⟨v1, hb, hR⟩ := xB_some hL
  obtain ⟨hz, hb2⟩ := xBool_some hb
  clear hL
  subst hz
  obtain rfl := Option.some.inj hR
  exact g_zret rfl (narrow_bool hb2) dX10_ill_51
def J_X10_ill_34 (x1 : Int32) (x2 : Int32) (y0 : Int32) (w : wS) : Option (Int32 × wS) :=
  if y0 = x2 then xB2 (L_X10_refuses (1) w) fun v5 w6 => if v5 ≤ 0 then J_X10_ill_51  (0) w6 else J_X10_ill_51  (1) w6 else xB (L_X10_keeps  w) fun w2 => xB (xAld w2 16 66 (2)) fun v3 => xB (xAst w2 16 66 (2) ((v3 ^^^ (1 <<< (x1 &&& 31))))) fun w4 => some (1, w4)
set_option maxRecDepth 20000 in
theorem J_X10_ill_34_ok {G : aG} {Hf : wS → aH} {b : Nat} {x1 : Int32} {x2 : Int32} {y0 : Int32} {w : wS} {r : Int32 × wS} (E : Emb Hf b 0 tbM) (hL : J_X10_ill_34  x1 x2 y0 w = some r) : AG G M_X10_ill 34 [some (.ref (b + 0)), some (.int (x1)), some (.int (x2))] [.int (y0)] (Hf w) (.inl (some (.int r.1)), Hf r.2) := by
  unfold J_X10_ill_34 at hL
  refine g_iload_n dX10_ill_34 rfl rfl ?_
  refine g_none 2 ?_
  refine g_icmp_ne (tgt := 52) dX10_ill_35 (by decide) (fun q8 => ?_) (fun q8 => ?_)
  · rw [if_neg q8] at hL
    refine g_aload_n dX10_ill_52 rfl rfl ?_
    obtain ⟨w2, hc, hL⟩ := xB_some hL
    refine g_callV (M' := M_X10_keeps) (as := []) (v := none) l_X10_385 kV_X10_keeps (by decide) (C_X10_keeps E hc) rfl (by have := E.1; omega) (E.2.1 _ 0 _ rfl) ⟨_, _, rfl⟩ (Nat.le_of_ble_eq_true rfl) dX10_ill_53 ?_
    refine g_aload_n dX10_ill_56 rfl rfl ?_
    refine g_none 0 ?_
    refine s_getR (j := 41) E rfl rfl f_X10_69 dX10_ill_57 ?_
    refine g_iconst (v := 2) dX10_ill_60 (by decide) ?_
    refine g_dup2 dX10_ill_61 rfl rfl ?_
    refine s_iald (k := 16) E hL rfl dX10_ill_62 ?_
    intro v3 hL
    refine g_iconst (v := 1) dX10_ill_63 (by decide) ?_
    refine g_iload_n dX10_ill_64 rfl rfl ?_
    refine g_none 1 ?_
    refine g_ishl dX10_ill_65 ?_
    refine g_ixor dX10_ill_66 ?_
    refine s_iast (k := 16) E hL rfl dX10_ill_67 ?_
    intro w4 hL
    refine g_iconst (v := 1) dX10_ill_68 (by decide) ?_
    obtain rfl := Option.some.inj hL
    exact g_zret rfl (by decide) dX10_ill_69
  · rw [if_pos q8] at hL
    refine g_none 1 ?_
    refine g_aload_n dX10_ill_38 rfl rfl ?_
    refine g_none 0 ?_
    refine g_iconst (v := 1) dX10_ill_39 (by decide) ?_
    obtain ⟨v5, w6, hc, hL⟩ := xB2_some hL
    refine g_callV (M' := M_X10_refuses) (as := [.int (1)]) (v := some (.int (v5))) l_X10_382 kV_X10_refuses (by decide) (C_X10_refuses E hc) rfl (by have := E.1; omega) (E.2.1 _ 0 _ rfl) ⟨_, _, rfl⟩ (Nat.le_of_ble_eq_true rfl) dX10_ill_40 ?_
    refine g_if_le (tgt := 50) dX10_ill_43 (by decide) (fun q7 => ?_) (fun q7 => ?_)
    · rw [if_pos q7] at hL
      refine g_iconst (v := 0) dX10_ill_50 (by decide) ?_
      exact J_X10_ill_51_ok E hL 
    · rw [if_neg q7] at hL
      refine g_iconst (v := 1) dX10_ill_46 (by decide) ?_
      refine g_goto (tgt := 51) dX10_ill_47 (by decide) ?_
      exact J_X10_ill_51_ok E hL 
def L_X10_ill (a1 : Int32) (a2 : Int32) (w : wS) : Option (Int32 × wS) :=
  xB (xPut w 0 (0)) fun w9 => xB2 (L_X10_isPerson (a1) w9) fun v10 w11 => if v10 = 0 then some (0, w11) else xB (xAld w11 16 66 (2)) fun v12 => if ((v12 >>> (a1 &&& 31)) &&& 1) = 1 then J_X10_ill_34  (a1) (a2) (1) w11 else J_X10_ill_34  (a1) (a2) (0) w11
set_option maxRecDepth 20000 in
theorem C_X10_ill {G : aG} {Hf : wS → aH} {b : Nat} {a1 : Int32} {a2 : Int32} {w : wS} {r : Int32 × wS} (E : Emb Hf b 0 tbM) (hL : L_X10_ill a1 a2 w = some r) : AC G M_X10_ill [.ref (b + 0), .int a1, .int a2] (Hf w) (.inl (some (.int r.1)), Hf r.2) := by
  unfold L_X10_ill at hL
  refine AC.of (by decide) rfl (Nat.le_of_ble_eq_true rfl) ?_
  show AG G M_X10_ill 0 [some (.ref (b + 0)), some (.int (a1)), some (.int (a2))] [] _ _
  refine g_aload_n dX10_ill_0 rfl rfl ?_
  refine g_iconst (v := 0) dX10_ill_1 (by decide) ?_
  refine s_putI (k := 0) (j := 0) E hL rfl rfl (by decide) fw_X10_120 rfl rfl dX10_ill_2 ?_
  intro w9 hL
  refine g_aload_n dX10_ill_5 rfl rfl ?_
  refine g_iload_n dX10_ill_6 rfl rfl ?_
  obtain ⟨v10, w11, hc, hL⟩ := xB2_some hL
  refine g_callV (M' := M_X10_isPerson) (as := [.int (a1)]) (v := some (.int (v10))) l_X10_370 kV_X10_isPerson (by decide) (C_X10_isPerson E hc) rfl (by have := E.1; omega) (E.2.1 _ 0 _ rfl) ⟨_, _, rfl⟩ (Nat.le_of_ble_eq_true rfl) dX10_ill_7 ?_
  refine g_if_ne (tgt := 15) dX10_ill_10 (by decide) (fun q14 => ?_) (fun q14 => ?_)
  · rw [if_neg q14] at hL
    refine g_aload_n dX10_ill_15 rfl rfl ?_
    refine s_getR (j := 41) E rfl rfl f_X10_69 dX10_ill_16 ?_
    refine g_iconst (v := 2) dX10_ill_19 (by decide) ?_
    refine s_iald (k := 16) E hL rfl dX10_ill_20 ?_
    intro v12 hL
    refine g_iload_n dX10_ill_21 rfl rfl ?_
    refine g_ishr dX10_ill_22 ?_
    refine g_iconst (v := 1) dX10_ill_23 (by decide) ?_
    refine g_iand dX10_ill_24 ?_
    refine g_iconst (v := 1) dX10_ill_25 (by decide) ?_
    refine g_icmp_ne (tgt := 33) dX10_ill_26 (by decide) (fun q13 => ?_) (fun q13 => ?_)
    · rw [if_neg q13] at hL
      refine g_iconst (v := 0) dX10_ill_33 (by decide) ?_
      exact J_X10_ill_34_ok E hL 
    · rw [if_pos q13] at hL
      refine g_iconst (v := 1) dX10_ill_29 (by decide) ?_
      refine g_goto (tgt := 34) dX10_ill_30 (by decide) ?_
      exact J_X10_ill_34_ok E hL 
  · rw [if_pos q14] at hL
    refine g_none 0 ?_
    refine g_none 1 ?_
    refine g_none 2 ?_
    refine g_iconst (v := 0) dX10_ill_13 (by decide) ?_
    obtain rfl := Option.some.inj hL
    exact g_zret rfl (by decide) dX10_ill_14
def J_X10_appoint_51 (w : wS) : Option (Int32 × wS) :=
  xB2 (L_X10_refuses (1) w) fun v1 w2 => some ((v1 - 1), w2)
set_option maxRecDepth 20000 in
theorem J_X10_appoint_51_ok {G : aG} {Hf : wS → aH} {b : Nat} {w : wS} {r : Int32 × wS} (E : Emb Hf b 0 tbM) (hL : J_X10_appoint_51   w = some r) : AG G M_X10_appoint 51 [some (.ref (b + 0)), none, none] [] (Hf w) (.inl (some (.int r.1)), Hf r.2) := by
  unfold J_X10_appoint_51 at hL
  refine g_aload_n dX10_appoint_51 rfl rfl ?_
  refine g_none 0 ?_
  refine g_iconst (v := 1) dX10_appoint_52 (by decide) ?_
  obtain ⟨v1, w2, hc, hL⟩ := xB2_some hL
  refine g_callV (M' := M_X10_refuses) (as := [.int (1)]) (v := some (.int (v1))) l_X10_382 kV_X10_refuses (by decide) (C_X10_refuses E hc) rfl (by have := E.1; omega) (E.2.1 _ 0 _ rfl) ⟨_, _, rfl⟩ (Nat.le_of_ble_eq_true rfl) dX10_appoint_53 ?_
  refine g_iconst (v := 1) dX10_appoint_56 (by decide) ?_
  refine g_isub dX10_appoint_57 ?_
  obtain rfl := Option.some.inj hL
  exact g_iret rfl dX10_appoint_58
def L_X10_appoint (a1 : Int32) (w : wS) : Option (Int32 × wS) :=
  xB (xPut w 0 (0)) fun w3 => xB2 (L_X10_isPerson (a1) w3) fun v4 w5 => if v4 = 0 then some (0, w5) else xB (xAld w5 16 66 (1)) fun v6 => if v6 = a1 then J_X10_appoint_51   w5 else xB (xAld w5 1 8 (a1)) fun v7 => if v7 = 2 then J_X10_appoint_51   w5 else xB (xAld w5 16 66 (2)) fun v8 => if ((v8 >>> (a1 &&& 31)) &&& 1) = 1 then J_X10_appoint_51   w5 else xB (L_X10_keeps  w5) fun w9 => xB (xAst w9 16 66 (1) (a1)) fun w10 => some (v6, w10)
set_option maxRecDepth 20000 in
theorem C_X10_appoint {G : aG} {Hf : wS → aH} {b : Nat} {a1 : Int32} {w : wS} {r : Int32 × wS} (E : Emb Hf b 0 tbM) (hL : L_X10_appoint a1 w = some r) : AC G M_X10_appoint [.ref (b + 0), .int a1] (Hf w) (.inl (some (.int r.1)), Hf r.2) := by
  unfold L_X10_appoint at hL
  refine AC.of (by decide) rfl (Nat.le_of_ble_eq_true rfl) ?_
  show AG G M_X10_appoint 0 [some (.ref (b + 0)), some (.int (a1)), none] [] _ _
  refine g_aload_n dX10_appoint_0 rfl rfl ?_
  refine g_iconst (v := 0) dX10_appoint_1 (by decide) ?_
  refine s_putI (k := 0) (j := 0) E hL rfl rfl (by decide) fw_X10_120 rfl rfl dX10_appoint_2 ?_
  intro w3 hL
  refine g_aload_n dX10_appoint_5 rfl rfl ?_
  refine g_iload_n dX10_appoint_6 rfl rfl ?_
  obtain ⟨v4, w5, hc, hL⟩ := xB2_some hL
  refine g_callV (M' := M_X10_isPerson) (as := [.int (a1)]) (v := some (.int (v4))) l_X10_370 kV_X10_isPerson (by decide) (C_X10_isPerson E hc) rfl (by have := E.1; omega) (E.2.1 _ 0 _ rfl) ⟨_, _, rfl⟩ (Nat.le_of_ble_eq_true rfl) dX10_appoint_7 ?_
  refine g_if_ne (tgt := 15) dX10_appoint_10 (by decide) (fun q14 => ?_) (fun q14 => ?_)
  · rw [if_neg q14] at hL
    refine g_aload_n dX10_appoint_15 rfl rfl ?_
    refine s_getR (j := 41) E rfl rfl f_X10_69 dX10_appoint_16 ?_
    refine g_iconst (v := 1) dX10_appoint_19 (by decide) ?_
    refine s_iald (k := 16) E hL rfl dX10_appoint_20 ?_
    intro v6 hL
    refine g_istore_n (i := 2) dX10_appoint_21 rfl (by decide) rfl ?_
    refine g_iload_n dX10_appoint_22 rfl rfl ?_
    refine g_iload_n dX10_appoint_23 rfl rfl ?_
    refine g_icmp_eq (tgt := 51) dX10_appoint_24 (by decide) (fun q13 => ?_) (fun q13 => ?_)
    · rw [if_pos q13] at hL
      refine g_none 1 ?_
      refine g_none 2 ?_
      exact J_X10_appoint_51_ok E hL 
    · rw [if_neg q13] at hL
      refine g_aload_n dX10_appoint_27 rfl rfl ?_
      refine s_getR (j := 6) E rfl rfl f_X10_19 dX10_appoint_28 ?_
      refine g_iload_n dX10_appoint_31 rfl rfl ?_
      refine s_iald (k := 1) E hL rfl dX10_appoint_32 ?_
      intro v7 hL
      refine g_iconst (v := 2) dX10_appoint_33 (by decide) ?_
      refine g_icmp_eq (tgt := 51) dX10_appoint_34 (by decide) (fun q12 => ?_) (fun q12 => ?_)
      · rw [if_pos q12] at hL
        refine g_none 1 ?_
        refine g_none 2 ?_
        exact J_X10_appoint_51_ok E hL 
      · rw [if_neg q12] at hL
        refine g_aload_n dX10_appoint_37 rfl rfl ?_
        refine s_getR (j := 41) E rfl rfl f_X10_69 dX10_appoint_38 ?_
        refine g_iconst (v := 2) dX10_appoint_41 (by decide) ?_
        refine s_iald (k := 16) E hL rfl dX10_appoint_42 ?_
        intro v8 hL
        refine g_iload_n dX10_appoint_43 rfl rfl ?_
        refine g_ishr dX10_appoint_44 ?_
        refine g_iconst (v := 1) dX10_appoint_45 (by decide) ?_
        refine g_iand dX10_appoint_46 ?_
        refine g_iconst (v := 1) dX10_appoint_47 (by decide) ?_
        refine g_icmp_ne (tgt := 59) dX10_appoint_48 (by decide) (fun q11 => ?_) (fun q11 => ?_)
        · rw [if_neg q11] at hL
          refine g_aload_n dX10_appoint_59 rfl rfl ?_
          obtain ⟨w9, hc, hL⟩ := xB_some hL
          refine g_callV (M' := M_X10_keeps) (as := []) (v := none) l_X10_385 kV_X10_keeps (by decide) (C_X10_keeps E hc) rfl (by have := E.1; omega) (E.2.1 _ 0 _ rfl) ⟨_, _, rfl⟩ (Nat.le_of_ble_eq_true rfl) dX10_appoint_60 ?_
          refine g_aload_n dX10_appoint_63 rfl rfl ?_
          refine g_none 0 ?_
          refine s_getR (j := 41) E rfl rfl f_X10_69 dX10_appoint_64 ?_
          refine g_iconst (v := 1) dX10_appoint_67 (by decide) ?_
          refine g_iload_n dX10_appoint_68 rfl rfl ?_
          refine g_none 1 ?_
          refine s_iast (k := 16) E hL rfl dX10_appoint_69 ?_
          intro w10 hL
          refine g_iload_n dX10_appoint_70 rfl rfl ?_
          refine g_none 2 ?_
          obtain rfl := Option.some.inj hL
          exact g_iret rfl dX10_appoint_71
        · rw [if_pos q11] at hL
          refine g_none 1 ?_
          refine g_none 2 ?_
          exact J_X10_appoint_51_ok E hL 
  · rw [if_pos q14] at hL
    refine g_none 0 ?_
    refine g_none 1 ?_
    refine g_iconst (v := 0) dX10_appoint_13 (by decide) ?_
    obtain rfl := Option.some.inj hL
    exact g_iret rfl dX10_appoint_14
def L_X10_due (a1 : Int32) (a2 : Int32) (w : wS) : Option (Int32 × wS) :=
  xB (xPut w 0 (0)) fun w1 => xB2 (L_X10_isDuty (a1) w1) fun v2 w3 => if v2 = 0 then some (0, w3) else xB (L_X10_within (a2) (0) (999)) fun v4 => if v4 = 0 then xB2 (L_X10_refuses (1) w3) fun v8 w9 => some (v8, w9) else xB (L_X10_keeps  w3) fun w5 => xB (xAld w5 16 66 ((27 + a1))) fun v6 => xB (xAst w5 16 66 ((27 + a1)) (a2)) fun w7 => some (v6, w7)
set_option maxRecDepth 20000 in
theorem C_X10_due {G : aG} {Hf : wS → aH} {b : Nat} {a1 : Int32} {a2 : Int32} {w : wS} {r : Int32 × wS} (E : Emb Hf b 0 tbM) (hL : L_X10_due a1 a2 w = some r) : AC G M_X10_due [.ref (b + 0), .int a1, .int a2] (Hf w) (.inl (some (.int r.1)), Hf r.2) := by
  unfold L_X10_due at hL
  refine AC.of (by decide) rfl (Nat.le_of_ble_eq_true rfl) ?_
  show AG G M_X10_due 0 [some (.ref (b + 0)), some (.int (a1)), some (.int (a2)), none] [] _ _
  refine g_aload_n dX10_due_0 rfl rfl ?_
  refine g_iconst (v := 0) dX10_due_1 (by decide) ?_
  refine s_putI (k := 0) (j := 0) E hL rfl rfl (by decide) fw_X10_120 rfl rfl dX10_due_2 ?_
  intro w1 hL
  refine g_aload_n dX10_due_5 rfl rfl ?_
  refine g_iload_n dX10_due_6 rfl rfl ?_
  obtain ⟨v2, w3, hc, hL⟩ := xB2_some hL
  refine g_callV (M' := M_X10_isDuty) (as := [.int (a1)]) (v := some (.int (v2))) l_X10_376 kV_X10_isDuty (by decide) (C_X10_isDuty E hc) rfl (by have := E.1; omega) (E.2.1 _ 0 _ rfl) ⟨_, _, rfl⟩ (Nat.le_of_ble_eq_true rfl) dX10_due_7 ?_
  refine g_if_ne (tgt := 15) dX10_due_10 (by decide) (fun q11 => ?_) (fun q11 => ?_)
  · rw [if_neg q11] at hL
    refine g_iload_n dX10_due_15 rfl rfl ?_
    refine g_iconst (v := 0) dX10_due_16 (by decide) ?_
    refine g_sipush (v := 999) dX10_due_17 (by decide) ?_
    obtain ⟨v4, hc, hL⟩ := xB_some hL
    refine g_callS (M' := M_X10_within) (as := [.int (a2), .int (0), .int (999)]) (v := some (.int (v4))) l_X10_361 kS_X10_within (by decide) (C_X10_within hc) rfl (Nat.le_of_ble_eq_true rfl) dX10_due_20 ?_
    refine g_if_ne (tgt := 32) dX10_due_23 (by decide) (fun q10 => ?_) (fun q10 => ?_)
    · rw [if_neg q10] at hL
      refine g_aload_n dX10_due_32 rfl rfl ?_
      obtain ⟨w5, hc, hL⟩ := xB_some hL
      refine g_callV (M' := M_X10_keeps) (as := []) (v := none) l_X10_385 kV_X10_keeps (by decide) (C_X10_keeps E hc) rfl (by have := E.1; omega) (E.2.1 _ 0 _ rfl) ⟨_, _, rfl⟩ (Nat.le_of_ble_eq_true rfl) dX10_due_33 ?_
      refine g_aload_n dX10_due_36 rfl rfl ?_
      refine s_getR (j := 41) E rfl rfl f_X10_69 dX10_due_37 ?_
      refine g_bipush (v := 27) dX10_due_40 (by decide) ?_
      refine g_iload_n dX10_due_42 rfl rfl ?_
      refine g_iadd dX10_due_43 ?_
      refine s_iald (k := 16) E hL rfl dX10_due_44 ?_
      intro v6 hL
      refine g_istore_n (i := 3) dX10_due_45 rfl (by decide) rfl ?_
      refine g_aload_n dX10_due_46 rfl rfl ?_
      refine g_none 0 ?_
      refine s_getR (j := 41) E rfl rfl f_X10_69 dX10_due_47 ?_
      refine g_bipush (v := 27) dX10_due_50 (by decide) ?_
      refine g_iload_n dX10_due_52 rfl rfl ?_
      refine g_none 1 ?_
      refine g_iadd dX10_due_53 ?_
      refine g_iload_n dX10_due_54 rfl rfl ?_
      refine g_none 2 ?_
      refine s_iast (k := 16) E hL rfl dX10_due_55 ?_
      intro w7 hL
      refine g_iload_n dX10_due_56 rfl rfl ?_
      refine g_none 3 ?_
      obtain rfl := Option.some.inj hL
      exact g_iret rfl dX10_due_57
    · rw [if_pos q10] at hL
      refine g_none 1 ?_
      refine g_none 2 ?_
      refine g_aload_n dX10_due_26 rfl rfl ?_
      refine g_none 0 ?_
      refine g_iconst (v := 1) dX10_due_27 (by decide) ?_
      obtain ⟨v8, w9, hc, hL⟩ := xB2_some hL
      refine g_callV (M' := M_X10_refuses) (as := [.int (1)]) (v := some (.int (v8))) l_X10_382 kV_X10_refuses (by decide) (C_X10_refuses E hc) rfl (by have := E.1; omega) (E.2.1 _ 0 _ rfl) ⟨_, _, rfl⟩ (Nat.le_of_ble_eq_true rfl) dX10_due_28 ?_
      obtain rfl := Option.some.inj hL
      exact g_iret rfl dX10_due_31
  · rw [if_pos q11] at hL
    refine g_none 0 ?_
    refine g_none 1 ?_
    refine g_none 2 ?_
    refine g_iconst (v := 0) dX10_due_13 (by decide) ?_
    obtain rfl := Option.some.inj hL
    exact g_iret rfl dX10_due_14
def L_X10_goesTo (a1 : Int32) (w : wS) : Option (wS) :=
  xB (L_X10_tries  w) fun w1 => xB (L_X10_daysGo (a1) w1) fun w2 => some w2
set_option maxRecDepth 20000 in
theorem C_X10_goesTo {G : aG} {Hf : wS → aH} {b : Nat} {a1 : Int32} {w : wS} {r : wS} (E : Emb Hf b 0 tbM) (hL : L_X10_goesTo a1 w = some r) : AC G M_X10_goesTo [.ref (b + 0), .int a1] (Hf w) (.inl none, Hf r) := by
  unfold L_X10_goesTo at hL
  refine AC.of (by decide) rfl (Nat.le_of_ble_eq_true rfl) ?_
  show AG G M_X10_goesTo 0 [some (.ref (b + 0)), some (.int (a1))] [] _ _
  refine g_aload_n dX10_goesTo_0 rfl rfl ?_
  obtain ⟨w1, hc, hL⟩ := xB_some hL
  refine g_callV (M' := M_X10_tries) (as := []) (v := none) l_X10_388 kV_X10_tries (by decide) (C_X10_tries E hc) rfl (by have := E.1; omega) (E.2.1 _ 0 _ rfl) ⟨_, _, rfl⟩ (Nat.le_of_ble_eq_true rfl) dX10_goesTo_1 ?_
  refine g_aload_n dX10_goesTo_4 rfl rfl ?_
  refine g_none 0 ?_
  refine g_iload_n dX10_goesTo_5 rfl rfl ?_
  refine g_none 1 ?_
  obtain ⟨w2, hc, hL⟩ := xB_some hL
  refine g_callV (M' := M_X10_daysGo) (as := [.int (a1)]) (v := none) l_X10_391 kV_X10_daysGo (by decide) (C_X10_daysGo E hc) rfl (by have := E.1; omega) (E.2.1 _ 0 _ rfl) ⟨_, _, rfl⟩ (Nat.le_of_ble_eq_true rfl) dX10_goesTo_6 ?_
  obtain rfl := Option.some.inj hL
  exact g_vret rfl dX10_goesTo_9
def J_X10_then_68 (y0 : Int32) (w : wS) : Option (Int32 × wS) :=
  some (y0, w)
set_option maxRecDepth 20000 in
theorem J_X10_then_68_ok {G : aG} {Hf : wS → aH} {b : Nat} {y0 : Int32} {w : wS} {r : Int32 × wS} (E : Emb Hf b 0 tbM) (hL : J_X10_then_68  y0 w = some r) : AG G M_X10_then 68 [none, none, none, none] [.int (y0)] (Hf w) (.inl (some (.int r.1)), Hf r.2) := by
  unfold J_X10_then_68 at hL
  obtain rfl := Option.some.inj hL
  exact g_iret rfl dX10_then_68
def J_X10_then_32 (w : wS) : Option (Int32 × wS) :=
  some (0, w)
set_option maxRecDepth 20000 in
theorem J_X10_then_32_ok {G : aG} {Hf : wS → aH} {b : Nat} {w : wS} {r : Int32 × wS} (E : Emb Hf b 0 tbM) (hL : J_X10_then_32   w = some r) : AG G M_X10_then 32 [none, none, none, none] [] (Hf w) (.inl (some (.int r.1)), Hf r.2) := by
  unfold J_X10_then_32 at hL
  refine g_iconst (v := 0) dX10_then_32 (by decide) ?_
  obtain rfl := Option.some.inj hL
  exact g_iret rfl dX10_then_33
def L_X10_then (a1 : Int32) (a2 : Int32) (a3 : Int32) (w : wS) : Option (Int32 × wS) :=
  xB (xPut w 0 (0)) fun w1 => xB2 (L_X10_isDuty (a1) w1) fun v2 w3 => if v2 = 0 then J_X10_then_32   w3 else xB2 (L_X10_isWhat (a3) (1) w3) fun v4 w5 => if v4 = 0 then J_X10_then_32   w5 else xB2 (L_X10_isDays (a2) (1) (2) w5) fun v6 w7 => if v6 = 0 then J_X10_then_32   w7 else xB (L_X10_goesTo (a2) w7) fun w8 => if a3 = 0 then xB (xAld w8 16 66 ((27 + a1))) fun v10 => xB (xAld w8 20 6 (a1)) fun v11 => J_X10_then_68  ((v10 + v11)) w8 else xB (xAld w8 21 6 (a1)) fun v9 => J_X10_then_68  (v9) w8
set_option maxRecDepth 20000 in
theorem C_X10_then {G : aG} {Hf : wS → aH} {b : Nat} {a1 : Int32} {a2 : Int32} {a3 : Int32} {w : wS} {r : Int32 × wS} (E : Emb Hf b 0 tbM) (hL : L_X10_then a1 a2 a3 w = some r) : AC G M_X10_then [.ref (b + 0), .int a1, .int a2, .int a3] (Hf w) (.inl (some (.int r.1)), Hf r.2) := by
  unfold L_X10_then at hL
  refine AC.of (by decide) rfl (Nat.le_of_ble_eq_true rfl) ?_
  show AG G M_X10_then 0 [some (.ref (b + 0)), some (.int (a1)), some (.int (a2)), some (.int (a3))] [] _ _
  refine g_aload_n dX10_then_0 rfl rfl ?_
  refine g_iconst (v := 0) dX10_then_1 (by decide) ?_
  refine s_putI (k := 0) (j := 0) E hL rfl rfl (by decide) fw_X10_120 rfl rfl dX10_then_2 ?_
  intro w1 hL
  refine g_aload_n dX10_then_5 rfl rfl ?_
  refine g_iload_n dX10_then_6 rfl rfl ?_
  obtain ⟨v2, w3, hc, hL⟩ := xB2_some hL
  refine g_callV (M' := M_X10_isDuty) (as := [.int (a1)]) (v := some (.int (v2))) l_X10_376 kV_X10_isDuty (by decide) (C_X10_isDuty E hc) rfl (by have := E.1; omega) (E.2.1 _ 0 _ rfl) ⟨_, _, rfl⟩ (Nat.le_of_ble_eq_true rfl) dX10_then_7 ?_
  refine g_if_eq (tgt := 32) dX10_then_10 (by decide) (fun q15 => ?_) (fun q15 => ?_)
  · rw [if_pos q15] at hL
    refine g_none 0 ?_
    refine g_none 1 ?_
    refine g_none 2 ?_
    refine g_none 3 ?_
    exact J_X10_then_32_ok E hL 
  · rw [if_neg q15] at hL
    refine g_aload_n dX10_then_13 rfl rfl ?_
    refine g_iload_n dX10_then_14 rfl rfl ?_
    refine g_iconst (v := 1) dX10_then_15 (by decide) ?_
    obtain ⟨v4, w5, hc, hL⟩ := xB2_some hL
    refine g_callV (M' := M_X10_isWhat) (as := [.int (a3), .int (1)]) (v := some (.int (v4))) l_X10_373 kV_X10_isWhat (by decide) (C_X10_isWhat E hc) rfl (by have := E.1; omega) (E.2.1 _ 0 _ rfl) ⟨_, _, rfl⟩ (Nat.le_of_ble_eq_true rfl) dX10_then_16 ?_
    refine g_if_eq (tgt := 32) dX10_then_19 (by decide) (fun q14 => ?_) (fun q14 => ?_)
    · rw [if_pos q14] at hL
      refine g_none 0 ?_
      refine g_none 1 ?_
      refine g_none 2 ?_
      refine g_none 3 ?_
      exact J_X10_then_32_ok E hL 
    · rw [if_neg q14] at hL
      refine g_aload_n dX10_then_22 rfl rfl ?_
      refine g_iload_n dX10_then_23 rfl rfl ?_
      refine g_iconst (v := 1) dX10_then_24 (by decide) ?_
      refine g_iconst (v := 2) dX10_then_25 (by decide) ?_
      obtain ⟨v6, w7, hc, hL⟩ := xB2_some hL
      refine g_callV (M' := M_X10_isDays) (as := [.int (a2), .int (1), .int (2)]) (v := some (.int (v6))) l_X10_394 kV_X10_isDays (by decide) (C_X10_isDays E hc) rfl (by have := E.1; omega) (E.2.1 _ 0 _ rfl) ⟨_, _, rfl⟩ (Nat.le_of_ble_eq_true rfl) dX10_then_26 ?_
      refine g_if_ne (tgt := 34) dX10_then_29 (by decide) (fun q13 => ?_) (fun q13 => ?_)
      · rw [if_neg q13] at hL
        refine g_aload_n dX10_then_34 rfl rfl ?_
        refine g_iload_n dX10_then_35 rfl rfl ?_
        refine g_none 2 ?_
        obtain ⟨w8, hc, hL⟩ := xB_some hL
        refine g_callV (M' := M_X10_goesTo) (as := [.int (a2)]) (v := none) l_X10_397 kV_X10_goesTo (by decide) (C_X10_goesTo E hc) rfl (by have := E.1; omega) (E.2.1 _ 0 _ rfl) ⟨_, _, rfl⟩ (Nat.le_of_ble_eq_true rfl) dX10_then_36 ?_
        refine g_iload_n dX10_then_39 rfl rfl ?_
        refine g_none 3 ?_
        refine g_if_ne (tgt := 62) dX10_then_40 (by decide) (fun q12 => ?_) (fun q12 => ?_)
        · rw [if_neg q12] at hL
          refine g_aload_n dX10_then_62 rfl rfl ?_
          refine g_none 0 ?_
          refine s_getR (j := 47) E rfl rfl f_X10_84 dX10_then_63 ?_
          refine g_iload_n dX10_then_66 rfl rfl ?_
          refine g_none 1 ?_
          refine s_iald (k := 21) E hL rfl dX10_then_67 ?_
          intro v9 hL
          exact J_X10_then_68_ok E hL 
        · rw [if_pos q12] at hL
          refine g_aload_n dX10_then_43 rfl rfl ?_
          refine s_getR (j := 41) E rfl rfl f_X10_69 dX10_then_44 ?_
          refine g_bipush (v := 27) dX10_then_47 (by decide) ?_
          refine g_iload_n dX10_then_49 rfl rfl ?_
          refine g_iadd dX10_then_50 ?_
          refine s_iald (k := 16) E hL rfl dX10_then_51 ?_
          intro v10 hL
          refine g_aload_n dX10_then_52 rfl rfl ?_
          refine g_none 0 ?_
          refine s_getR (j := 46) E rfl rfl f_X10_81 dX10_then_53 ?_
          refine g_iload_n dX10_then_56 rfl rfl ?_
          refine g_none 1 ?_
          refine s_iald (k := 20) E hL rfl dX10_then_57 ?_
          intro v11 hL
          refine g_iadd dX10_then_58 ?_
          refine g_goto (tgt := 68) dX10_then_59 (by decide) ?_
          exact J_X10_then_68_ok E hL 
      · rw [if_pos q13] at hL
        refine g_none 0 ?_
        refine g_none 1 ?_
        refine g_none 2 ?_
        refine g_none 3 ?_
        exact J_X10_then_32_ok E hL 
def J_X10_later_55 (x1 : Int32) (y1 : Int32) (y2 : Int32) (w : wS) : Option (Int32 × wS) :=
  xB (xAld w 16 66 (((y1 + y2) + x1))) fun v1 => some (v1, w)
set_option maxRecDepth 20000 in
theorem J_X10_later_55_ok {G : aG} {Hf : wS → aH} {b : Nat} {x1 : Int32} {y1 : Int32} {y2 : Int32} {w : wS} {r : Int32 × wS} (E : Emb Hf b 0 tbM) (hL : J_X10_later_55  x1 y1 y2 w = some r) : AG G M_X10_later 55 [none, some (.int (x1)), none, none] [.int (y2), .int (y1), .ref (b + 16)] (Hf w) (.inl (some (.int r.1)), Hf r.2) := by
  unfold J_X10_later_55 at hL
  refine g_iadd dX10_later_55 ?_
  refine g_iload_n dX10_later_56 rfl rfl ?_
  refine g_none 1 ?_
  refine g_iadd dX10_later_57 ?_
  refine s_iald (k := 16) E hL rfl dX10_later_58 ?_
  intro v1 hL
  obtain rfl := Option.some.inj hL
  exact g_iret rfl dX10_later_59
def J_X10_later_32 (w : wS) : Option (Int32 × wS) :=
  some (0, w)
set_option maxRecDepth 20000 in
theorem J_X10_later_32_ok {G : aG} {Hf : wS → aH} {b : Nat} {w : wS} {r : Int32 × wS} (E : Emb Hf b 0 tbM) (hL : J_X10_later_32   w = some r) : AG G M_X10_later 32 [none, none, none, none] [] (Hf w) (.inl (some (.int r.1)), Hf r.2) := by
  unfold J_X10_later_32 at hL
  refine g_iconst (v := 0) dX10_later_32 (by decide) ?_
  obtain rfl := Option.some.inj hL
  exact g_iret rfl dX10_later_33
def L_X10_later (a1 : Int32) (a2 : Int32) (a3 : Int32) (w : wS) : Option (Int32 × wS) :=
  xB (xPut w 0 (0)) fun w2 => xB2 (L_X10_isPerson (a1) w2) fun v3 w4 => if v3 = 0 then J_X10_later_32   w4 else xB2 (L_X10_isWhat (a3) (1) w4) fun v5 w6 => if v5 = 0 then J_X10_later_32   w6 else xB2 (L_X10_isDays (a2) (0) (2) w6) fun v7 w8 => if v7 = 0 then J_X10_later_32   w8 else xB (L_X10_goesTo (a2) w8) fun w9 => if a3 = 0 then J_X10_later_55  (a1) (33) (3) w9 else J_X10_later_55  (a1) (33) (19) w9
set_option maxRecDepth 20000 in
theorem C_X10_later {G : aG} {Hf : wS → aH} {b : Nat} {a1 : Int32} {a2 : Int32} {a3 : Int32} {w : wS} {r : Int32 × wS} (E : Emb Hf b 0 tbM) (hL : L_X10_later a1 a2 a3 w = some r) : AC G M_X10_later [.ref (b + 0), .int a1, .int a2, .int a3] (Hf w) (.inl (some (.int r.1)), Hf r.2) := by
  unfold L_X10_later at hL
  refine AC.of (by decide) rfl (Nat.le_of_ble_eq_true rfl) ?_
  show AG G M_X10_later 0 [some (.ref (b + 0)), some (.int (a1)), some (.int (a2)), some (.int (a3))] [] _ _
  refine g_aload_n dX10_later_0 rfl rfl ?_
  refine g_iconst (v := 0) dX10_later_1 (by decide) ?_
  refine s_putI (k := 0) (j := 0) E hL rfl rfl (by decide) fw_X10_120 rfl rfl dX10_later_2 ?_
  intro w2 hL
  refine g_aload_n dX10_later_5 rfl rfl ?_
  refine g_iload_n dX10_later_6 rfl rfl ?_
  obtain ⟨v3, w4, hc, hL⟩ := xB2_some hL
  refine g_callV (M' := M_X10_isPerson) (as := [.int (a1)]) (v := some (.int (v3))) l_X10_370 kV_X10_isPerson (by decide) (C_X10_isPerson E hc) rfl (by have := E.1; omega) (E.2.1 _ 0 _ rfl) ⟨_, _, rfl⟩ (Nat.le_of_ble_eq_true rfl) dX10_later_7 ?_
  refine g_if_eq (tgt := 32) dX10_later_10 (by decide) (fun q13 => ?_) (fun q13 => ?_)
  · rw [if_pos q13] at hL
    refine g_none 0 ?_
    refine g_none 1 ?_
    refine g_none 2 ?_
    refine g_none 3 ?_
    exact J_X10_later_32_ok E hL 
  · rw [if_neg q13] at hL
    refine g_aload_n dX10_later_13 rfl rfl ?_
    refine g_iload_n dX10_later_14 rfl rfl ?_
    refine g_iconst (v := 1) dX10_later_15 (by decide) ?_
    obtain ⟨v5, w6, hc, hL⟩ := xB2_some hL
    refine g_callV (M' := M_X10_isWhat) (as := [.int (a3), .int (1)]) (v := some (.int (v5))) l_X10_373 kV_X10_isWhat (by decide) (C_X10_isWhat E hc) rfl (by have := E.1; omega) (E.2.1 _ 0 _ rfl) ⟨_, _, rfl⟩ (Nat.le_of_ble_eq_true rfl) dX10_later_16 ?_
    refine g_if_eq (tgt := 32) dX10_later_19 (by decide) (fun q12 => ?_) (fun q12 => ?_)
    · rw [if_pos q12] at hL
      refine g_none 0 ?_
      refine g_none 1 ?_
      refine g_none 2 ?_
      refine g_none 3 ?_
      exact J_X10_later_32_ok E hL 
    · rw [if_neg q12] at hL
      refine g_aload_n dX10_later_22 rfl rfl ?_
      refine g_iload_n dX10_later_23 rfl rfl ?_
      refine g_iconst (v := 0) dX10_later_24 (by decide) ?_
      refine g_iconst (v := 2) dX10_later_25 (by decide) ?_
      obtain ⟨v7, w8, hc, hL⟩ := xB2_some hL
      refine g_callV (M' := M_X10_isDays) (as := [.int (a2), .int (0), .int (2)]) (v := some (.int (v7))) l_X10_394 kV_X10_isDays (by decide) (C_X10_isDays E hc) rfl (by have := E.1; omega) (E.2.1 _ 0 _ rfl) ⟨_, _, rfl⟩ (Nat.le_of_ble_eq_true rfl) dX10_later_26 ?_
      refine g_if_ne (tgt := 34) dX10_later_29 (by decide) (fun q11 => ?_) (fun q11 => ?_)
      · rw [if_neg q11] at hL
        refine g_aload_n dX10_later_34 rfl rfl ?_
        refine g_iload_n dX10_later_35 rfl rfl ?_
        refine g_none 2 ?_
        obtain ⟨w9, hc, hL⟩ := xB_some hL
        refine g_callV (M' := M_X10_goesTo) (as := [.int (a2)]) (v := none) l_X10_397 kV_X10_goesTo (by decide) (C_X10_goesTo E hc) rfl (by have := E.1; omega) (E.2.1 _ 0 _ rfl) ⟨_, _, rfl⟩ (Nat.le_of_ble_eq_true rfl) dX10_later_36 ?_
        refine g_aload_n dX10_later_39 rfl rfl ?_
        refine g_none 0 ?_
        refine s_getR (j := 41) E rfl rfl f_X10_69 dX10_later_40 ?_
        refine g_bipush (v := 33) dX10_later_43 (by decide) ?_
        refine g_iload_n dX10_later_45 rfl rfl ?_
        refine g_none 3 ?_
        refine g_if_ne (tgt := 53) dX10_later_46 (by decide) (fun q10 => ?_) (fun q10 => ?_)
        · rw [if_neg q10] at hL
          refine g_bipush (v := 19) dX10_later_53 (by decide) ?_
          exact J_X10_later_55_ok E hL 
        · rw [if_pos q10] at hL
          refine g_iconst (v := 3) dX10_later_49 (by decide) ?_
          refine g_goto (tgt := 55) dX10_later_50 (by decide) ?_
          exact J_X10_later_55_ok E hL 
      · rw [if_pos q11] at hL
        refine g_none 0 ?_
        refine g_none 1 ?_
        refine g_none 2 ?_
        refine g_none 3 ?_
        exact J_X10_later_32_ok E hL 
def B_X10_first_21 (kh21 : Int32 → Int32 → wS → Option (Int32 × wS)) (ke45 : Int32 → wS → Option (Int32 × wS)) (ke53 : wS → Option (Int32 × wS)) (x1 : Int32) (x2 : Int32) (w : wS) : Option (Int32 × wS) :=
  if 40 < x2 then ke53  w else xB (L_X10_dayGoes (33) w) fun w1 => xB (xGet w1 49) fun v2 => if ((v2 >>> (x1 &&& 31)) &&& 1) = 1 then ke45 (x2) w1 else kh21 (x1) ((x2 + 1)) w1
set_option maxRecDepth 20000 in
theorem B_X10_first_21_ok {G : aG} {Hf : wS → aH} {b : Nat} {kh21 : Int32 → Int32 → wS → Option (Int32 × wS)} {ke45 : Int32 → wS → Option (Int32 × wS)} {ke53 : wS → Option (Int32 × wS)} {x1 : Int32} {x2 : Int32} {w : wS} {r : Int32 × wS} (E : Emb Hf b 0 tbM) (hL : B_X10_first_21 kh21 ke45 ke53 x1 x2 w = some r) (Hkh21 : ∀ (z0 : Int32) (z1 : Int32) (w : wS), kh21 z0 z1 w = some r → AG G M_X10_first 21 [some (.ref (b + 0)), some (.int (z0)), some (.int (z1))] [] (Hf w) (.inl (some (.int r.1)), Hf r.2)) (Hke45 : ∀ (z0 : Int32) (w : wS), ke45 z0 w = some r → AG G M_X10_first 45 [none, none, some (.int (z0))] [] (Hf w) (.inl (some (.int r.1)), Hf r.2)) (Hke53 : ∀ (w : wS), ke53  w = some r → AG G M_X10_first 53 [none, none, none] [] (Hf w) (.inl (some (.int r.1)), Hf r.2)) : AG G M_X10_first 21 [some (.ref (b + 0)), some (.int (x1)), some (.int (x2))] [] (Hf w) (.inl (some (.int r.1)), Hf r.2) := by
  unfold B_X10_first_21 at hL
  refine g_iload_n dX10_first_21 rfl rfl ?_
  refine g_bipush (v := 40) dX10_first_22 (by decide) ?_
  refine g_icmp_gt (tgt := 53) dX10_first_24 (by decide) (fun q4 => ?_) (fun q4 => ?_)
  · rw [if_pos q4] at hL
    refine g_none 0 ?_
    refine g_none 1 ?_
    refine g_none 2 ?_
    exact Hke53  _ hL
  · rw [if_neg q4] at hL
    refine g_aload_n dX10_first_27 rfl rfl ?_
    refine g_bipush (v := 33) dX10_first_28 (by decide) ?_
    obtain ⟨w1, hc, hL⟩ := xB_some hL
    refine g_callV (M' := M_X10_dayGoes) (as := [.int (33)]) (v := none) l_X10_358 kV_X10_dayGoes (by decide) (C_X10_dayGoes E hc) rfl (by have := E.1; omega) (E.2.1 _ 0 _ rfl) ⟨_, _, rfl⟩ (Nat.le_of_ble_eq_true rfl) dX10_first_30 ?_
    refine g_aload_n dX10_first_33 rfl rfl ?_
    refine s_getI (k := 0) (j := 49) E hL rfl rfl f_X10_334 dX10_first_34 ?_
    intro v2 hL
    refine g_iload_n dX10_first_37 rfl rfl ?_
    refine g_ishr dX10_first_38 ?_
    refine g_iconst (v := 1) dX10_first_39 (by decide) ?_
    refine g_iand dX10_first_40 ?_
    refine g_iconst (v := 1) dX10_first_41 (by decide) ?_
    refine g_icmp_ne (tgt := 47) dX10_first_42 (by decide) (fun q3 => ?_) (fun q3 => ?_)
    · rw [if_neg q3] at hL
      refine g_iincV (v := (x2 + 1)) dX10_first_47 rfl rfl (by decide) rfl ?_
      refine g_goto (tgt := 21) dX10_first_50 (by decide) ?_
      exact Hkh21 _ _ _ hL
    · rw [if_pos q3] at hL
      refine g_none 0 ?_
      refine g_none 1 ?_
      exact Hke45 _ _ hL
def P_X10_first_21 (ke45 : Int32 → wS → Option (Int32 × wS)) (ke53 : wS → Option (Int32 × wS)) (n : Nat) (x1 : Int32) (x2 : Int32) (w : wS) : Option (Int32 × wS) :=
  xLoop (fun (kk : Int32 × Int32 × wS → Option (Int32 × wS)) σ => B_X10_first_21 (fun x1 x2 w => kk (x1, x2, w)) ke45 ke53 (σ.1) (σ.2.1) (σ.2.2)) n (x1, x2, w)
theorem P_X10_first_21_ok {G : aG} {Hf : wS → aH} {b : Nat} {ke45 : Int32 → wS → Option (Int32 × wS)} {ke53 : wS → Option (Int32 × wS)} {n : Nat} {x1 : Int32} {x2 : Int32} {w : wS} {r : Int32 × wS} (E : Emb Hf b 0 tbM) (hL : P_X10_first_21 ke45 ke53 n x1 x2 w = some r) (Hke45 : ∀ (z0 : Int32) (w : wS), ke45 z0 w = some r → AG G M_X10_first 45 [none, none, some (.int (z0))] [] (Hf w) (.inl (some (.int r.1)), Hf r.2)) (Hke53 : ∀ (w : wS), ke53  w = some r → AG G M_X10_first 53 [none, none, none] [] (Hf w) (.inl (some (.int r.1)), Hf r.2)) : AG G M_X10_first 21 [some (.ref (b + 0)), some (.int (x1)), some (.int (x2))] [] (Hf w) (.inl (some (.int r.1)), Hf r.2) :=
  xLoop_ok (Q := fun (σ : Int32 × Int32 × wS) => AG G M_X10_first 21 [some (.ref (b + 0)), some (.int (σ.1)), some (.int (σ.2.1))] [] (Hf σ.2.2) (.inl (some (.int r.1)), Hf r.2)) (fun kk hk σ hσ => B_X10_first_21_ok E hσ (fun x1 x2 w h9 => hk (x1, x2, w) h9) Hke45 Hke53) n (x1, x2, w) hL
def L_X10_first (a1 : Int32) (w : wS) : Option (Int32 × wS) :=
  xB (xPut w 0 (0)) fun w5 => xB2 (L_X10_isPerson (a1) w5) fun v6 w7 => if v6 = 0 then some (0, w7) else xB (L_X10_tries  w7) fun w8 => P_X10_first_21 (fun z9 w10 => some (z9, w10)) (fun w11 => some ((-1), w11)) 5000 (a1) (1) w8
set_option maxRecDepth 20000 in
theorem C_X10_first {G : aG} {Hf : wS → aH} {b : Nat} {a1 : Int32} {w : wS} {r : Int32 × wS} (E : Emb Hf b 0 tbM) (hL : L_X10_first a1 w = some r) : AC G M_X10_first [.ref (b + 0), .int a1] (Hf w) (.inl (some (.int r.1)), Hf r.2) := by
  unfold L_X10_first at hL
  refine AC.of (by decide) rfl (Nat.le_of_ble_eq_true rfl) ?_
  show AG G M_X10_first 0 [some (.ref (b + 0)), some (.int (a1)), none] [] _ _
  refine g_aload_n dX10_first_0 rfl rfl ?_
  refine g_iconst (v := 0) dX10_first_1 (by decide) ?_
  refine s_putI (k := 0) (j := 0) E hL rfl rfl (by decide) fw_X10_120 rfl rfl dX10_first_2 ?_
  intro w5 hL
  refine g_aload_n dX10_first_5 rfl rfl ?_
  refine g_iload_n dX10_first_6 rfl rfl ?_
  obtain ⟨v6, w7, hc, hL⟩ := xB2_some hL
  refine g_callV (M' := M_X10_isPerson) (as := [.int (a1)]) (v := some (.int (v6))) l_X10_370 kV_X10_isPerson (by decide) (C_X10_isPerson E hc) rfl (by have := E.1; omega) (E.2.1 _ 0 _ rfl) ⟨_, _, rfl⟩ (Nat.le_of_ble_eq_true rfl) dX10_first_7 ?_
  refine g_if_ne (tgt := 15) dX10_first_10 (by decide) (fun q12 => ?_) (fun q12 => ?_)
  · rw [if_neg q12] at hL
    refine g_aload_n dX10_first_15 rfl rfl ?_
    obtain ⟨w8, hc, hL⟩ := xB_some hL
    refine g_callV (M' := M_X10_tries) (as := []) (v := none) l_X10_388 kV_X10_tries (by decide) (C_X10_tries E hc) rfl (by have := E.1; omega) (E.2.1 _ 0 _ rfl) ⟨_, _, rfl⟩ (Nat.le_of_ble_eq_true rfl) dX10_first_16 ?_
    refine g_iconst (v := 1) dX10_first_19 (by decide) ?_
    refine g_istore_n (i := 2) dX10_first_20 rfl (by decide) rfl ?_
    refine P_X10_first_21_ok E hL ?_ ?_
    · intro z9 w10 hL
      refine g_iload_n dX10_first_45 rfl rfl ?_
      refine g_none 2 ?_
      obtain rfl := Option.some.inj hL
      exact g_iret rfl dX10_first_46
    · intro w11 hL
      refine g_iconst (v := (-1)) dX10_first_53 (by decide) ?_
      obtain rfl := Option.some.inj hL
      exact g_iret rfl dX10_first_54
  · rw [if_pos q12] at hL
    refine g_none 0 ?_
    refine g_none 1 ?_
    refine g_iconst (v := 0) dX10_first_13 (by decide) ?_
    obtain rfl := Option.some.inj hL
    exact g_iret rfl dX10_first_14
def J_X10_worst_56 (kh26 : Int32 → Int32 → wS → Option (Int32 × wS)) (ke62 : Int32 → wS → Option (Int32 × wS)) (x2 : Int32) (x3 : Int32) (w : wS) : Option (Int32 × wS) :=
  kh26 (x2) ((x3 + 1)) w
set_option maxRecDepth 20000 in
theorem J_X10_worst_56_ok {G : aG} {Hf : wS → aH} {b : Nat} {kh26 : Int32 → Int32 → wS → Option (Int32 × wS)} {ke62 : Int32 → wS → Option (Int32 × wS)} {x2 : Int32} {x3 : Int32} {w : wS} {r : Int32 × wS} (E : Emb Hf b 0 tbM) (hL : J_X10_worst_56 kh26 ke62 x2 x3 w = some r) (Hkh26 : ∀ (z0 : Int32) (z1 : Int32) (w : wS), kh26 z0 z1 w = some r → AG G M_X10_worst 26 [some (.ref (b + 0)), none, some (.int (z0)), some (.int (z1))] [] (Hf w) (.inl (some (.int r.1)), Hf r.2)) (Hke62 : ∀ (z0 : Int32) (w : wS), ke62 z0 w = some r → AG G M_X10_worst 62 [none, none, some (.int (z0)), none] [] (Hf w) (.inl (some (.int r.1)), Hf r.2)) : AG G M_X10_worst 56 [some (.ref (b + 0)), none, some (.int (x2)), some (.int (x3))] [] (Hf w) (.inl (some (.int r.1)), Hf r.2) := by
  unfold J_X10_worst_56 at hL
  refine g_iincV (v := (x3 + 1)) dX10_worst_56 rfl rfl (by decide) rfl ?_
  refine g_goto (tgt := 26) dX10_worst_59 (by decide) ?_
  exact Hkh26 _ _ _ hL
def J_X10_worst_54 (kh26 : Int32 → Int32 → wS → Option (Int32 × wS)) (ke62 : Int32 → wS → Option (Int32 × wS)) (x3 : Int32) (w : wS) : Option (Int32 × wS) :=
  J_X10_worst_56 kh26 ke62 (x3) (x3) w
set_option maxRecDepth 20000 in
theorem J_X10_worst_54_ok {G : aG} {Hf : wS → aH} {b : Nat} {kh26 : Int32 → Int32 → wS → Option (Int32 × wS)} {ke62 : Int32 → wS → Option (Int32 × wS)} {x3 : Int32} {w : wS} {r : Int32 × wS} (E : Emb Hf b 0 tbM) (hL : J_X10_worst_54 kh26 ke62 x3 w = some r) (Hkh26 : ∀ (z0 : Int32) (z1 : Int32) (w : wS), kh26 z0 z1 w = some r → AG G M_X10_worst 26 [some (.ref (b + 0)), none, some (.int (z0)), some (.int (z1))] [] (Hf w) (.inl (some (.int r.1)), Hf r.2)) (Hke62 : ∀ (z0 : Int32) (w : wS), ke62 z0 w = some r → AG G M_X10_worst 62 [none, none, some (.int (z0)), none] [] (Hf w) (.inl (some (.int r.1)), Hf r.2)) : AG G M_X10_worst 54 [some (.ref (b + 0)), none, none, some (.int (x3))] [] (Hf w) (.inl (some (.int r.1)), Hf r.2) := by
  unfold J_X10_worst_54 at hL
  refine g_iload_n dX10_worst_54 rfl rfl ?_
  refine g_istore_n (i := 2) dX10_worst_55 rfl (by decide) rfl ?_
  exact J_X10_worst_56_ok E hL Hkh26 Hke62
def B_X10_worst_26 (kh26 : Int32 → Int32 → wS → Option (Int32 × wS)) (ke62 : Int32 → wS → Option (Int32 × wS)) (x2 : Int32) (x3 : Int32) (w : wS) : Option (Int32 × wS) :=
  xB (xGet w 2) fun v1 => if v1 ≤ x3 then ke62 (x2) w else if x2 = (-1) then J_X10_worst_54 kh26 ke62 (x3) w else xB (xAld w 20 6 (x3)) fun v2 => xB (xAld w 20 6 (x2)) fun v3 => if v2 ≤ v3 then J_X10_worst_56 kh26 ke62 (x2) (x3) w else J_X10_worst_54 kh26 ke62 (x3) w
set_option maxRecDepth 20000 in
theorem B_X10_worst_26_ok {G : aG} {Hf : wS → aH} {b : Nat} {kh26 : Int32 → Int32 → wS → Option (Int32 × wS)} {ke62 : Int32 → wS → Option (Int32 × wS)} {x2 : Int32} {x3 : Int32} {w : wS} {r : Int32 × wS} (E : Emb Hf b 0 tbM) (hL : B_X10_worst_26 kh26 ke62 x2 x3 w = some r) (Hkh26 : ∀ (z0 : Int32) (z1 : Int32) (w : wS), kh26 z0 z1 w = some r → AG G M_X10_worst 26 [some (.ref (b + 0)), none, some (.int (z0)), some (.int (z1))] [] (Hf w) (.inl (some (.int r.1)), Hf r.2)) (Hke62 : ∀ (z0 : Int32) (w : wS), ke62 z0 w = some r → AG G M_X10_worst 62 [none, none, some (.int (z0)), none] [] (Hf w) (.inl (some (.int r.1)), Hf r.2)) : AG G M_X10_worst 26 [some (.ref (b + 0)), none, some (.int (x2)), some (.int (x3))] [] (Hf w) (.inl (some (.int r.1)), Hf r.2) := by
  unfold B_X10_worst_26 at hL
  refine g_iload_n dX10_worst_26 rfl rfl ?_
  refine g_aload_n dX10_worst_27 rfl rfl ?_
  refine s_getI (k := 0) (j := 2) E hL rfl rfl f_X10_281 dX10_worst_28 ?_
  intro v1 hL
  refine g_icmp_ge (tgt := 62) dX10_worst_31 (by decide) (fun q6 => ?_) (fun q6 => ?_)
  · rw [if_pos q6] at hL
    refine g_none 0 ?_
    refine g_none 3 ?_
    exact Hke62 _ _ hL
  · rw [if_neg q6] at hL
    refine g_iload_n dX10_worst_34 rfl rfl ?_
    refine g_iconst (v := (-1)) dX10_worst_35 (by decide) ?_
    refine g_icmp_eq (tgt := 54) dX10_worst_36 (by decide) (fun q5 => ?_) (fun q5 => ?_)
    · rw [if_pos q5] at hL
      refine g_none 2 ?_
      exact J_X10_worst_54_ok E hL Hkh26 Hke62
    · rw [if_neg q5] at hL
      refine g_aload_n dX10_worst_39 rfl rfl ?_
      refine s_getR (j := 46) E rfl rfl f_X10_81 dX10_worst_40 ?_
      refine g_iload_n dX10_worst_43 rfl rfl ?_
      refine s_iald (k := 20) E hL rfl dX10_worst_44 ?_
      intro v2 hL
      refine g_aload_n dX10_worst_45 rfl rfl ?_
      refine s_getR (j := 46) E rfl rfl f_X10_81 dX10_worst_46 ?_
      refine g_iload_n dX10_worst_49 rfl rfl ?_
      refine s_iald (k := 20) E hL rfl dX10_worst_50 ?_
      intro v3 hL
      refine g_icmp_le (tgt := 56) dX10_worst_51 (by decide) (fun q4 => ?_) (fun q4 => ?_)
      · rw [if_pos q4] at hL
        exact J_X10_worst_56_ok E hL Hkh26 Hke62
      · rw [if_neg q4] at hL
        refine g_none 2 ?_
        exact J_X10_worst_54_ok E hL Hkh26 Hke62
def P_X10_worst_26 (ke62 : Int32 → wS → Option (Int32 × wS)) (n : Nat) (x2 : Int32) (x3 : Int32) (w : wS) : Option (Int32 × wS) :=
  xLoop (fun (kk : Int32 × Int32 × wS → Option (Int32 × wS)) σ => B_X10_worst_26 (fun x2 x3 w => kk (x2, x3, w)) ke62 (σ.1) (σ.2.1) (σ.2.2)) n (x2, x3, w)
theorem P_X10_worst_26_ok {G : aG} {Hf : wS → aH} {b : Nat} {ke62 : Int32 → wS → Option (Int32 × wS)} {n : Nat} {x2 : Int32} {x3 : Int32} {w : wS} {r : Int32 × wS} (E : Emb Hf b 0 tbM) (hL : P_X10_worst_26 ke62 n x2 x3 w = some r) (Hke62 : ∀ (z0 : Int32) (w : wS), ke62 z0 w = some r → AG G M_X10_worst 62 [none, none, some (.int (z0)), none] [] (Hf w) (.inl (some (.int r.1)), Hf r.2)) : AG G M_X10_worst 26 [some (.ref (b + 0)), none, some (.int (x2)), some (.int (x3))] [] (Hf w) (.inl (some (.int r.1)), Hf r.2) :=
  xLoop_ok (Q := fun (σ : Int32 × Int32 × wS) => AG G M_X10_worst 26 [some (.ref (b + 0)), none, some (.int (σ.1)), some (.int (σ.2.1))] [] (Hf σ.2.2) (.inl (some (.int r.1)), Hf r.2)) (fun kk hk σ hσ => B_X10_worst_26_ok E hσ (fun x2 x3 w h9 => hk (x2, x3, w) h9) Hke62) n (x2, x3, w) hL
def L_X10_worst (a1 : Int32) (w : wS) : Option (Int32 × wS) :=
  xB (xPut w 0 (0)) fun w7 => xB2 (L_X10_isDays (a1) (1) (1) w7) fun v8 w9 => if v8 = 0 then some (0, w9) else xB (L_X10_goesTo (a1) w9) fun w10 => P_X10_worst_26 (fun z11 w12 => some (z11, w12)) 5000 ((-1)) (0) w10
set_option maxRecDepth 20000 in
theorem C_X10_worst {G : aG} {Hf : wS → aH} {b : Nat} {a1 : Int32} {w : wS} {r : Int32 × wS} (E : Emb Hf b 0 tbM) (hL : L_X10_worst a1 w = some r) : AC G M_X10_worst [.ref (b + 0), .int a1] (Hf w) (.inl (some (.int r.1)), Hf r.2) := by
  unfold L_X10_worst at hL
  refine AC.of (by decide) rfl (Nat.le_of_ble_eq_true rfl) ?_
  show AG G M_X10_worst 0 [some (.ref (b + 0)), some (.int (a1)), none, none] [] _ _
  refine g_aload_n dX10_worst_0 rfl rfl ?_
  refine g_iconst (v := 0) dX10_worst_1 (by decide) ?_
  refine s_putI (k := 0) (j := 0) E hL rfl rfl (by decide) fw_X10_120 rfl rfl dX10_worst_2 ?_
  intro w7 hL
  refine g_aload_n dX10_worst_5 rfl rfl ?_
  refine g_iload_n dX10_worst_6 rfl rfl ?_
  refine g_iconst (v := 1) dX10_worst_7 (by decide) ?_
  refine g_iconst (v := 1) dX10_worst_8 (by decide) ?_
  obtain ⟨v8, w9, hc, hL⟩ := xB2_some hL
  refine g_callV (M' := M_X10_isDays) (as := [.int (a1), .int (1), .int (1)]) (v := some (.int (v8))) l_X10_394 kV_X10_isDays (by decide) (C_X10_isDays E hc) rfl (by have := E.1; omega) (E.2.1 _ 0 _ rfl) ⟨_, _, rfl⟩ (Nat.le_of_ble_eq_true rfl) dX10_worst_9 ?_
  refine g_if_ne (tgt := 17) dX10_worst_12 (by decide) (fun q13 => ?_) (fun q13 => ?_)
  · rw [if_neg q13] at hL
    refine g_aload_n dX10_worst_17 rfl rfl ?_
    refine g_iload_n dX10_worst_18 rfl rfl ?_
    refine g_none 1 ?_
    obtain ⟨w10, hc, hL⟩ := xB_some hL
    refine g_callV (M' := M_X10_goesTo) (as := [.int (a1)]) (v := none) l_X10_397 kV_X10_goesTo (by decide) (C_X10_goesTo E hc) rfl (by have := E.1; omega) (E.2.1 _ 0 _ rfl) ⟨_, _, rfl⟩ (Nat.le_of_ble_eq_true rfl) dX10_worst_19 ?_
    refine g_iconst (v := (-1)) dX10_worst_22 (by decide) ?_
    refine g_istore_n (i := 2) dX10_worst_23 rfl (by decide) rfl ?_
    refine g_iconst (v := 0) dX10_worst_24 (by decide) ?_
    refine g_istore_n (i := 3) dX10_worst_25 rfl (by decide) rfl ?_
    refine P_X10_worst_26_ok E hL ?_
    · intro z11 w12 hL
      refine g_iload_n dX10_worst_62 rfl rfl ?_
      refine g_none 2 ?_
      obtain rfl := Option.some.inj hL
      exact g_iret rfl dX10_worst_63
  · rw [if_pos q13] at hL
    refine g_none 0 ?_
    refine g_none 1 ?_
    refine g_iconst (v := 0) dX10_worst_15 (by decide) ?_
    obtain rfl := Option.some.inj hL
    exact g_iret rfl dX10_worst_16
def B_X10_rangIn_8 (kh8 : Int32 → Int32 → Int32 → wS → Option (Int32 × wS)) (ke32 : Int32 → wS → Option (Int32 × wS)) (x1 : Int32) (x2 : Int32) (x3 : Int32) (w : wS) : Option (Int32 × wS) :=
  if x1 ≤ x3 then ke32 (x2) w else xB (L_X10_dayGoes (33) w) fun w1 => xB (xGet w1 49) fun v2 => kh8 (x1) ((x2 ||| v2)) ((x3 + 1)) w1
set_option maxRecDepth 20000 in
theorem B_X10_rangIn_8_ok {G : aG} {Hf : wS → aH} {b : Nat} {kh8 : Int32 → Int32 → Int32 → wS → Option (Int32 × wS)} {ke32 : Int32 → wS → Option (Int32 × wS)} {x1 : Int32} {x2 : Int32} {x3 : Int32} {w : wS} {r : Int32 × wS} (E : Emb Hf b 0 tbM) (hL : B_X10_rangIn_8 kh8 ke32 x1 x2 x3 w = some r) (Hkh8 : ∀ (z0 : Int32) (z1 : Int32) (z2 : Int32) (w : wS), kh8 z0 z1 z2 w = some r → AG G M_X10_rangIn 8 [some (.ref (b + 0)), some (.int (z0)), some (.int (z1)), some (.int (z2))] [] (Hf w) (.inl (some (.int r.1)), Hf r.2)) (Hke32 : ∀ (z0 : Int32) (w : wS), ke32 z0 w = some r → AG G M_X10_rangIn 32 [none, none, some (.int (z0)), none] [] (Hf w) (.inl (some (.int r.1)), Hf r.2)) : AG G M_X10_rangIn 8 [some (.ref (b + 0)), some (.int (x1)), some (.int (x2)), some (.int (x3))] [] (Hf w) (.inl (some (.int r.1)), Hf r.2) := by
  unfold B_X10_rangIn_8 at hL
  refine g_iload_n dX10_rangIn_8 rfl rfl ?_
  refine g_iload_n dX10_rangIn_9 rfl rfl ?_
  refine g_icmp_ge (tgt := 32) dX10_rangIn_10 (by decide) (fun q3 => ?_) (fun q3 => ?_)
  · rw [if_pos q3] at hL
    refine g_none 0 ?_
    refine g_none 1 ?_
    refine g_none 3 ?_
    exact Hke32 _ _ hL
  · rw [if_neg q3] at hL
    refine g_aload_n dX10_rangIn_13 rfl rfl ?_
    refine g_bipush (v := 33) dX10_rangIn_14 (by decide) ?_
    obtain ⟨w1, hc, hL⟩ := xB_some hL
    refine g_callV (M' := M_X10_dayGoes) (as := [.int (33)]) (v := none) l_X10_358 kV_X10_dayGoes (by decide) (C_X10_dayGoes E hc) rfl (by have := E.1; omega) (E.2.1 _ 0 _ rfl) ⟨_, _, rfl⟩ (Nat.le_of_ble_eq_true rfl) dX10_rangIn_16 ?_
    refine g_iload_n dX10_rangIn_19 rfl rfl ?_
    refine g_none 2 ?_
    refine g_aload_n dX10_rangIn_20 rfl rfl ?_
    refine s_getI (k := 0) (j := 49) E hL rfl rfl f_X10_334 dX10_rangIn_21 ?_
    intro v2 hL
    refine g_ior dX10_rangIn_24 ?_
    refine g_istore_n (i := 2) dX10_rangIn_25 rfl (by decide) rfl ?_
    refine g_iincV (v := (x3 + 1)) dX10_rangIn_26 rfl rfl (by decide) rfl ?_
    refine g_goto (tgt := 8) dX10_rangIn_29 (by decide) ?_
    exact Hkh8 _ _ _ _ hL
def P_X10_rangIn_8 (ke32 : Int32 → wS → Option (Int32 × wS)) (n : Nat) (x1 : Int32) (x2 : Int32) (x3 : Int32) (w : wS) : Option (Int32 × wS) :=
  xLoop (fun (kk : Int32 × Int32 × Int32 × wS → Option (Int32 × wS)) σ => B_X10_rangIn_8 (fun x1 x2 x3 w => kk (x1, x2, x3, w)) ke32 (σ.1) (σ.2.1) (σ.2.2.1) (σ.2.2.2)) n (x1, x2, x3, w)
theorem P_X10_rangIn_8_ok {G : aG} {Hf : wS → aH} {b : Nat} {ke32 : Int32 → wS → Option (Int32 × wS)} {n : Nat} {x1 : Int32} {x2 : Int32} {x3 : Int32} {w : wS} {r : Int32 × wS} (E : Emb Hf b 0 tbM) (hL : P_X10_rangIn_8 ke32 n x1 x2 x3 w = some r) (Hke32 : ∀ (z0 : Int32) (w : wS), ke32 z0 w = some r → AG G M_X10_rangIn 32 [none, none, some (.int (z0)), none] [] (Hf w) (.inl (some (.int r.1)), Hf r.2)) : AG G M_X10_rangIn 8 [some (.ref (b + 0)), some (.int (x1)), some (.int (x2)), some (.int (x3))] [] (Hf w) (.inl (some (.int r.1)), Hf r.2) :=
  xLoop_ok (Q := fun (σ : Int32 × Int32 × Int32 × wS) => AG G M_X10_rangIn 8 [some (.ref (b + 0)), some (.int (σ.1)), some (.int (σ.2.1)), some (.int (σ.2.2.1))] [] (Hf σ.2.2.2) (.inl (some (.int r.1)), Hf r.2)) (fun kk hk σ hσ => B_X10_rangIn_8_ok E hσ (fun x1 x2 x3 w h9 => hk (x1, x2, x3, w) h9) Hke32) n (x1, x2, x3, w) hL
def L_X10_rangIn (a1 : Int32) (w : wS) : Option (Int32 × wS) :=
  xB (L_X10_tries  w) fun w4 => P_X10_rangIn_8 (fun z5 w6 => some (z5, w6)) 5000 (a1) (0) (0) w4
set_option maxRecDepth 20000 in
theorem C_X10_rangIn {G : aG} {Hf : wS → aH} {b : Nat} {a1 : Int32} {w : wS} {r : Int32 × wS} (E : Emb Hf b 0 tbM) (hL : L_X10_rangIn a1 w = some r) : AC G M_X10_rangIn [.ref (b + 0), .int a1] (Hf w) (.inl (some (.int r.1)), Hf r.2) := by
  unfold L_X10_rangIn at hL
  refine AC.of (by decide) rfl (Nat.le_of_ble_eq_true rfl) ?_
  show AG G M_X10_rangIn 0 [some (.ref (b + 0)), some (.int (a1)), none, none] [] _ _
  refine g_iconst (v := 0) dX10_rangIn_0 (by decide) ?_
  refine g_istore_n (i := 2) dX10_rangIn_1 rfl (by decide) rfl ?_
  refine g_aload_n dX10_rangIn_2 rfl rfl ?_
  obtain ⟨w4, hc, hL⟩ := xB_some hL
  refine g_callV (M' := M_X10_tries) (as := []) (v := none) l_X10_388 kV_X10_tries (by decide) (C_X10_tries E hc) rfl (by have := E.1; omega) (E.2.1 _ 0 _ rfl) ⟨_, _, rfl⟩ (Nat.le_of_ble_eq_true rfl) dX10_rangIn_3 ?_
  refine g_iconst (v := 0) dX10_rangIn_6 (by decide) ?_
  refine g_istore_n (i := 3) dX10_rangIn_7 rfl (by decide) rfl ?_
  refine P_X10_rangIn_8_ok E hL ?_
  · intro z5 w6 hL
    refine g_iload_n dX10_rangIn_32 rfl rfl ?_
    refine g_none 2 ?_
    obtain rfl := Option.some.inj hL
    exact g_iret rfl dX10_rangIn_33
def J_X10_idle_35 (y0 : Int32) (w : wS) : Option (Int32 × wS) :=
  some (y0, w)
set_option maxRecDepth 20000 in
theorem J_X10_idle_35_ok {G : aG} {Hf : wS → aH} {b : Nat} {y0 : Int32} {w : wS} {r : Int32 × wS} (E : Emb Hf b 0 tbM) (hL : J_X10_idle_35  y0 w = some r) : AG G M_X10_idle 35 [none, none] [.int (y0)] (Hf w) (.inl (some (.int r.1)), Hf r.2) := by
  unfold J_X10_idle_35 at hL
  obtain rfl := Option.some.inj hL
  exact g_iret rfl dX10_idle_35
def L_X10_idle (a1 : Int32) (w : wS) : Option (Int32 × wS) :=
  xB (xPut w 0 (0)) fun w1 => xB2 (L_X10_isDays (a1) (0) (1) w1) fun v2 w3 => if v2 = 0 then J_X10_idle_35  (0) w3 else xB (xGet w3 1) fun v4 => xB2 (L_X10_rangIn (a1) w3) fun v5 w6 => J_X10_idle_35  ((((1 <<< (v4 &&& 31)) - 1) &&& (v5 ^^^ (-1)))) w6
set_option maxRecDepth 20000 in
theorem C_X10_idle {G : aG} {Hf : wS → aH} {b : Nat} {a1 : Int32} {w : wS} {r : Int32 × wS} (E : Emb Hf b 0 tbM) (hL : L_X10_idle a1 w = some r) : AC G M_X10_idle [.ref (b + 0), .int a1] (Hf w) (.inl (some (.int r.1)), Hf r.2) := by
  unfold L_X10_idle at hL
  refine AC.of (by decide) rfl (Nat.le_of_ble_eq_true rfl) ?_
  show AG G M_X10_idle 0 [some (.ref (b + 0)), some (.int (a1))] [] _ _
  refine g_aload_n dX10_idle_0 rfl rfl ?_
  refine g_iconst (v := 0) dX10_idle_1 (by decide) ?_
  refine s_putI (k := 0) (j := 0) E hL rfl rfl (by decide) fw_X10_120 rfl rfl dX10_idle_2 ?_
  intro w1 hL
  refine g_aload_n dX10_idle_5 rfl rfl ?_
  refine g_iload_n dX10_idle_6 rfl rfl ?_
  refine g_iconst (v := 0) dX10_idle_7 (by decide) ?_
  refine g_iconst (v := 1) dX10_idle_8 (by decide) ?_
  obtain ⟨v2, w3, hc, hL⟩ := xB2_some hL
  refine g_callV (M' := M_X10_isDays) (as := [.int (a1), .int (0), .int (1)]) (v := some (.int (v2))) l_X10_394 kV_X10_isDays (by decide) (C_X10_isDays E hc) rfl (by have := E.1; omega) (E.2.1 _ 0 _ rfl) ⟨_, _, rfl⟩ (Nat.le_of_ble_eq_true rfl) dX10_idle_9 ?_
  refine g_if_eq (tgt := 34) dX10_idle_12 (by decide) (fun q7 => ?_) (fun q7 => ?_)
  · rw [if_pos q7] at hL
    refine g_none 0 ?_
    refine g_none 1 ?_
    refine g_iconst (v := 0) dX10_idle_34 (by decide) ?_
    exact J_X10_idle_35_ok E hL 
  · rw [if_neg q7] at hL
    refine g_iconst (v := 1) dX10_idle_15 (by decide) ?_
    refine g_aload_n dX10_idle_16 rfl rfl ?_
    refine s_getI (k := 0) (j := 1) E hL rfl rfl f_X10_278 dX10_idle_17 ?_
    intro v4 hL
    refine g_ishl dX10_idle_20 ?_
    refine g_iconst (v := 1) dX10_idle_21 (by decide) ?_
    refine g_isub dX10_idle_22 ?_
    refine g_aload_n dX10_idle_23 rfl rfl ?_
    refine g_none 0 ?_
    refine g_iload_n dX10_idle_24 rfl rfl ?_
    refine g_none 1 ?_
    obtain ⟨v5, w6, hc, hL⟩ := xB2_some hL
    refine g_callV (M' := M_X10_rangIn) (as := [.int (a1)]) (v := some (.int (v5))) l_X10_400 kV_X10_rangIn (by decide) (C_X10_rangIn E hc) rfl (by have := E.1; omega) (E.2.1 _ 0 _ rfl) ⟨_, _, rfl⟩ (Nat.le_of_ble_eq_true rfl) dX10_idle_25 ?_
    refine g_iconst (v := (-1)) dX10_idle_28 (by decide) ?_
    refine g_ixor dX10_idle_29 ?_
    refine g_iand dX10_idle_30 ?_
    refine g_goto (tgt := 35) dX10_idle_31 (by decide) ?_
    exact J_X10_idle_35_ok E hL 
