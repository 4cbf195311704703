def J_X9_idle_51 (o : wO) (kh22 : Int32 → Int32 → wS → Option ((Int32 ⊕ String) × wS)) (ke57 : Int32 → wS → Option ((Int32 ⊕ String) × wS)) (x3 : Int32) (x4 : Int32) (w : wS) : Option ((Int32 ⊕ String) × wS) :=
  kh22 (x3) ((x4 + 1)) w
set_option maxRecDepth 20000 in
theorem J_X9_idle_51_ok {G : aG} {Hf : wS → aH} {bx : Nat} {o : wO} {kh22 : Int32 → Int32 → wS → Option ((Int32 ⊕ String) × wS)} {ke57 : Int32 → wS → Option ((Int32 ⊕ String) × wS)} {x3 : Int32} {x4 : Int32} {w : wS} {r : (Int32 ⊕ String) × wS} (hG : aGood G) (E : EX Hf bx o) (hL : J_X9_idle_51 o kh22 ke57 x3 x4 w = some r) (Hkh22 : ∀ (z0 : Int32) (z1 : Int32) (w : wS), kh22 z0 z1 w = some r → AG G M_X9_idle 22 [some (.ref (bx + 0)), none, some (.ref (bx + 30)), some (.int (z0)), some (.int (z1))] [] (Hf w) (xRv Hf r)) (Hke57 : ∀ (z0 : Int32) (w : wS), ke57 z0 w = some r → AG G M_X9_idle 57 [none, none, none, some (.int (z0)), none] [] (Hf w) (xRv Hf r)) : AG G M_X9_idle 51 [some (.ref (bx + 0)), none, some (.ref (bx + 30)), some (.int (x3)), some (.int (x4))] [] (Hf w) (xRv Hf r) := by
  unfold J_X9_idle_51 at hL
  refine g_iincV (v := (x4 + 1)) dX9_idle_51 rfl rfl (by decide) rfl ?_
  refine g_goto (tgt := 22) dX9_idle_54 (by decide) ?_
  exact Hkh22 _ _ _ hL
def B_X9_idle_22 (o : wO) (kh22 : Int32 → Int32 → wS → Option ((Int32 ⊕ String) × wS)) (ke57 : Int32 → wS → Option ((Int32 ⊕ String) × wS)) (x3 : Int32) (x4 : Int32) (w : wS) : Option ((Int32 ⊕ String) × wS) :=
  xIf (xRef w 9 (oT o + 0)) (xB (xGet w 100006) fun v1 => if v1 ≤ x4 then ke57 (x3) w else xB (xAld w 34 8 (x4)) fun v2 => if v2 = 0 then J_X9_idle_51 o kh22 ke57 ((x3 ||| ((1 : Int32) <<< (x4 &&& 31)))) (x4) w else J_X9_idle_51 o kh22 ke57 (x3) (x4) w)
set_option maxRecDepth 20000 in
theorem B_X9_idle_22_ok {G : aG} {Hf : wS → aH} {bx : Nat} {o : wO} {kh22 : Int32 → Int32 → wS → Option ((Int32 ⊕ String) × wS)} {ke57 : Int32 → wS → Option ((Int32 ⊕ String) × wS)} {x3 : Int32} {x4 : Int32} {w : wS} {r : (Int32 ⊕ String) × wS} (hG : aGood G) (E : EX Hf bx o) (hL : B_X9_idle_22 o kh22 ke57 x3 x4 w = some r) (Hkh22 : ∀ (z0 : Int32) (z1 : Int32) (w : wS), kh22 z0 z1 w = some r → AG G M_X9_idle 22 [some (.ref (bx + 0)), none, some (.ref (bx + 30)), some (.int (z0)), some (.int (z1))] [] (Hf w) (xRv Hf r)) (Hke57 : ∀ (z0 : Int32) (w : wS), ke57 z0 w = some r → AG G M_X9_idle 57 [none, none, none, some (.int (z0)), none] [] (Hf w) (xRv Hf r)) : AG G M_X9_idle 22 [some (.ref (bx + 0)), none, some (.ref (bx + 30)), some (.int (x3)), some (.int (x4))] [] (Hf w) (xRv Hf r) := by
  unfold B_X9_idle_22 at hL
  refine g_iload dX9_idle_22 rfl ?_
  refine g_aload_n dX9_idle_24 rfl rfl ?_
  refine s_getT (k := 0) (j := 9) E.1 hL rfl rfl f_X9_55 dX9_idle_25 ?_
  intro hL
  refine s_getI (k := 0) (j := 6) E.2.1 hL rfl rfl f_X9_99 dX9_idle_28 ?_
  intro v1 hL
  refine g_icmp_ge (tgt := 57) dX9_idle_31 (by decide) (fun q4 => ?_) (fun q4 => ?_)
  · rw [if_pos q4] at hL
    refine g_none 0 ?_
    refine g_none 2 ?_
    refine g_none 4 ?_
    exact Hke57 _ _ hL
  · rw [if_neg q4] at hL
    refine g_aload_n dX9_idle_34 rfl rfl ?_
    refine s_getR (k := 30) (j := 2) E.1 rfl rfl f_X9_240 dX9_idle_35 ?_
    refine g_iload dX9_idle_38 rfl ?_
    refine s_iald (k := 34) E.1 hL rfl dX9_idle_40 ?_
    intro v2 hL
    refine g_if_ne (tgt := 51) dX9_idle_41 (by decide) (fun q3 => ?_) (fun q3 => ?_)
    · rw [if_neg q3] at hL
      exact J_X9_idle_51_ok hG E hL Hkh22 Hke57
    · rw [if_pos q3] at hL
      refine g_iload_n dX9_idle_44 rfl rfl ?_
      refine g_none 3 ?_
      refine g_iconst (v := 1) dX9_idle_45 (by decide) ?_
      refine g_iload dX9_idle_46 rfl ?_
      refine g_ishl dX9_idle_48 ?_
      refine g_ior dX9_idle_49 ?_
      refine g_istore_n (i := 3) dX9_idle_50 rfl (by decide) rfl ?_
      exact J_X9_idle_51_ok hG E hL Hkh22 Hke57
def P_X9_idle_22 (o : wO) (ke57 : Int32 → wS → Option ((Int32 ⊕ String) × wS)) (n : Nat) (x3 : Int32) (x4 : Int32) (w : wS) : Option ((Int32 ⊕ String) × wS) :=
  xLoop (fun (kk : Int32 × Int32 × wS → Option ((Int32 ⊕ String) × wS)) σ => B_X9_idle_22 o (fun x3 x4 w => kk (x3, x4, w)) ke57 (σ.1) (σ.2.1) (σ.2.2)) n (x3, x4, w)
theorem P_X9_idle_22_ok {G : aG} {Hf : wS → aH} {bx : Nat} {o : wO} {ke57 : Int32 → wS → Option ((Int32 ⊕ String) × wS)} {n : Nat} {x3 : Int32} {x4 : Int32} {w : wS} {r : (Int32 ⊕ String) × wS} (hG : aGood G) (E : EX Hf bx o) (hL : P_X9_idle_22 o ke57 n x3 x4 w = some r) (Hke57 : ∀ (z0 : Int32) (w : wS), ke57 z0 w = some r → AG G M_X9_idle 57 [none, none, none, some (.int (z0)), none] [] (Hf w) (xRv Hf r)) : AG G M_X9_idle 22 [some (.ref (bx + 0)), none, some (.ref (bx + 30)), some (.int (x3)), some (.int (x4))] [] (Hf w) (xRv Hf r) :=
  xLoop_ok (Q := fun (σ : Int32 × Int32 × wS) => AG G M_X9_idle 22 [some (.ref (bx + 0)), none, some (.ref (bx + 30)), some (.int (σ.1)), some (.int (σ.2.1))] [] (Hf σ.2.2) (xRv Hf r)) (fun kk hk σ hσ => B_X9_idle_22_ok hG E hσ (fun x3 x4 w h9 => hk (x3, x4, w) h9) Hke57) n (x3, x4, w) hL
def L_X9_idle (o : wO) (a1 : Int32) (w : wS) : Option ((Int32 ⊕ String) × wS) :=
  xBT (L_X9_needRange (a1) (0) (40)) (fun E9 => some (.inr E9, w)) (xB (L_X9_fromNow o  w) fun w5 => xB (L_X1_manyDays o (a1) w5) fun w6 => P_X9_idle_22 o (fun z7 w8 => some (.inl (z7), w8)) 5000 (0) (0) w6)
set_option maxRecDepth 20000 in
theorem C_X9_idle {G : aG} {Hf : wS → aH} {bx : Nat} {o : wO} {a1 : Int32} {w : wS} {r : (Int32 ⊕ String) × wS} (hG : aGood G) (E : EX Hf bx o) (hL : L_X9_idle o a1 w = some r) : AC G M_X9_idle [.ref (bx + 0), .int a1] (Hf w) (xRv Hf r) := by
  unfold L_X9_idle at hL
  refine AC.of (by decide) rfl (Nat.le_of_ble_eq_true rfl) ?_
  show AG G M_X9_idle 0 [some (.ref (bx + 0)), some (.int (a1)), none, none, none] [] _ _
  refine g_iload_n dX9_idle_0 rfl rfl ?_
  refine g_iconst (v := 0) dX9_idle_1 (by decide) ?_
  refine g_bipush (v := 40) dX9_idle_2 (by decide) ?_
  rcases xBT_some hL with ⟨hc, hL⟩ | ⟨E9, hc, hL⟩
  · refine g_callS (M' := M_X9_needRange) (as := [.int (a1), .int (0), .int (40)]) (v := none) l_X9_224 kS_X9_needRange (by decide) (C_X9_needRange hG hc) rfl (Nat.le_of_ble_eq_true rfl) dX9_idle_4 ?_
    refine g_aload_n dX9_idle_7 rfl rfl ?_
    obtain ⟨w5, hc, hL⟩ := xB_some hL
    refine g_callV (M' := M_X9_fromNow) (as := []) (v := some (.ref (bx + 30))) l_X9_193 kV_X9_fromNow (by decide) (C_X9_fromNow hG E hc) rfl (by have := E.1.1; omega) (E.1.2.1 _ 0 _ rfl) ⟨_, _, rfl⟩ (Nat.le_of_ble_eq_true rfl) dX9_idle_8 ?_
    refine g_astore_n (i := 2) dX9_idle_11 rfl (by decide) rfl ?_
    refine g_aload_n dX9_idle_12 rfl rfl ?_
    refine g_iload_n dX9_idle_13 rfl rfl ?_
    refine g_none 1 ?_
    obtain ⟨w6, hc, hL⟩ := xB_some hL
    refine g_callV (M' := M_X1_manyDays) (as := [.int (a1)]) (v := none) l_X9_197 kV_X1_manyDays (by decide) (C_X1_manyDays hG E hc) rfl (by have := E.1.1; omega) (E.1.2.1 _ 30 _ rfl) ⟨_, _, rfl⟩ (Nat.le_of_ble_eq_true rfl) dX9_idle_14 ?_
    refine g_iconst (v := 0) dX9_idle_17 (by decide) ?_
    refine g_istore_n (i := 3) dX9_idle_18 rfl (by decide) rfl ?_
    refine g_iconst (v := 0) dX9_idle_19 (by decide) ?_
    refine g_istore (i := 4) dX9_idle_20 (by decide) rfl ?_
    refine P_X9_idle_22_ok hG E hL ?_
    · intro z7 w8 hL
      refine g_iload_n dX9_idle_57 rfl rfl ?_
      refine g_none 3 ?_
      obtain rfl := Option.some.inj hL
      exact g_iret rfl dX9_idle_58
  · obtain rfl := Option.some.inj hL
    exact g_callSX (M' := M_X9_needRange) (as := [.int (a1), .int (0), .int (40)]) (E := E9) (aIn1 1037 (by decide +kernel) rfl) kS_X9_needRange (by decide) rfl (C_X9_needRange hG hc) rfl (Nat.le_of_ble_eq_true rfl) dX9_idle_4
def B_X9_areAlike_2 (o : wO) (kh2 : Int32 → Int32 → Int32 → wS → Option (Int32 × wS)) (ke33 : wS → Option (Int32 × wS)) (ke41 : wS → Option (Int32 × wS)) (x1 : Int32) (x2 : Int32) (x3 : Int32) (w : wS) : Option (Int32 × wS) :=
  if 17 ≤ x3 then ke41  w else xB (xAld w 49 697 (((x1 * (17 : Int32)) + x3))) fun v1 => xB (xAld w 49 697 (((x2 * (17 : Int32)) + x3))) fun v2 => if v1 = v2 then kh2 (x1) (x2) ((x3 + 1)) w else ke33  w
set_option maxRecDepth 20000 in
theorem B_X9_areAlike_2_ok {G : aG} {Hf : wS → aH} {bx : Nat} {o : wO} {kh2 : Int32 → Int32 → Int32 → wS → Option (Int32 × wS)} {ke33 : wS → Option (Int32 × wS)} {ke41 : wS → Option (Int32 × wS)} {x1 : Int32} {x2 : Int32} {x3 : Int32} {w : wS} {r : Int32 × wS} (hG : aGood G) (E : EX Hf bx o) (hL : B_X9_areAlike_2 o kh2 ke33 ke41 x1 x2 x3 w = some r) (Hkh2 : ∀ (z0 : Int32) (z1 : Int32) (z2 : Int32) (w : wS), kh2 z0 z1 z2 w = some r → AG G M_X9_areAlike 2 [some (.ref (bx + 0)), some (.int (z0)), some (.int (z1)), some (.int (z2))] [] (Hf w) (.inl (some (.int r.1)), Hf r.2)) (Hke33 : ∀ (w : wS), ke33  w = some r → AG G M_X9_areAlike 33 [none, none, none, none] [] (Hf w) (.inl (some (.int r.1)), Hf r.2)) (Hke41 : ∀ (w : wS), ke41  w = some r → AG G M_X9_areAlike 41 [none, none, none, none] [] (Hf w) (.inl (some (.int r.1)), Hf r.2)) : AG G M_X9_areAlike 2 [some (.ref (bx + 0)), some (.int (x1)), some (.int (x2)), some (.int (x3))] [] (Hf w) (.inl (some (.int r.1)), Hf r.2) := by
  unfold B_X9_areAlike_2 at hL
  refine g_iload_n dX9_areAlike_2 rfl rfl ?_
  refine g_bipush (v := 17) dX9_areAlike_3 (by decide) ?_
  refine g_icmp_ge (tgt := 41) dX9_areAlike_5 (by decide) (fun q4 => ?_) (fun q4 => ?_)
  · rw [if_pos q4] at hL
    refine g_none 0 ?_
    refine g_none 1 ?_
    refine g_none 2 ?_
    refine g_none 3 ?_
    exact Hke41  _ hL
  · rw [if_neg q4] at hL
    refine g_aload_n dX9_areAlike_8 rfl rfl ?_
    refine s_getR (k := 0) (j := 5) E.1 rfl rfl f_X9_39 dX9_areAlike_9 ?_
    refine g_iload_n dX9_areAlike_12 rfl rfl ?_
    refine g_bipush (v := 17) dX9_areAlike_13 (by decide) ?_
    refine g_imul dX9_areAlike_15 ?_
    refine g_iload_n dX9_areAlike_16 rfl rfl ?_
    refine g_iadd dX9_areAlike_17 ?_
    refine s_iald (k := 49) E.1 hL rfl dX9_areAlike_18 ?_
    intro v1 hL
    refine g_aload_n dX9_areAlike_19 rfl rfl ?_
    refine s_getR (k := 0) (j := 5) E.1 rfl rfl f_X9_39 dX9_areAlike_20 ?_
    refine g_iload_n dX9_areAlike_23 rfl rfl ?_
    refine g_bipush (v := 17) dX9_areAlike_24 (by decide) ?_
    refine g_imul dX9_areAlike_26 ?_
    refine g_iload_n dX9_areAlike_27 rfl rfl ?_
    refine g_iadd dX9_areAlike_28 ?_
    refine s_iald (k := 49) E.1 hL rfl dX9_areAlike_29 ?_
    intro v2 hL
    refine g_icmp_eq (tgt := 35) dX9_areAlike_30 (by decide) (fun q3 => ?_) (fun q3 => ?_)
    · rw [if_pos q3] at hL
      refine g_iincV (v := (x3 + 1)) dX9_areAlike_35 rfl rfl (by decide) rfl ?_
      refine g_goto (tgt := 2) dX9_areAlike_38 (by decide) ?_
      exact Hkh2 _ _ _ _ hL
    · rw [if_neg q3] at hL
      refine g_none 0 ?_
      refine g_none 1 ?_
      refine g_none 2 ?_
      refine g_none 3 ?_
      exact Hke33  _ hL
def P_X9_areAlike_2 (o : wO) (ke33 : wS → Option (Int32 × wS)) (ke41 : wS → Option (Int32 × wS)) (n : Nat) (x1 : Int32) (x2 : Int32) (x3 : Int32) (w : wS) : Option (Int32 × wS) :=
  xLoop (fun (kk : Int32 × Int32 × Int32 × wS → Option (Int32 × wS)) σ => B_X9_areAlike_2 o (fun x1 x2 x3 w => kk (x1, x2, x3, w)) ke33 ke41 (σ.1) (σ.2.1) (σ.2.2.1) (σ.2.2.2)) n (x1, x2, x3, w)
theorem P_X9_areAlike_2_ok {G : aG} {Hf : wS → aH} {bx : Nat} {o : wO} {ke33 : wS → Option (Int32 × wS)} {ke41 : wS → Option (Int32 × wS)} {n : Nat} {x1 : Int32} {x2 : Int32} {x3 : Int32} {w : wS} {r : Int32 × wS} (hG : aGood G) (E : EX Hf bx o) (hL : P_X9_areAlike_2 o ke33 ke41 n x1 x2 x3 w = some r) (Hke33 : ∀ (w : wS), ke33  w = some r → AG G M_X9_areAlike 33 [none, none, none, none] [] (Hf w) (.inl (some (.int r.1)), Hf r.2)) (Hke41 : ∀ (w : wS), ke41  w = some r → AG G M_X9_areAlike 41 [none, none, none, none] [] (Hf w) (.inl (some (.int r.1)), Hf r.2)) : AG G M_X9_areAlike 2 [some (.ref (bx + 0)), some (.int (x1)), some (.int (x2)), some (.int (x3))] [] (Hf w) (.inl (some (.int r.1)), Hf r.2) :=
  xLoop_ok (Q := fun (σ : Int32 × Int32 × Int32 × wS) => AG G M_X9_areAlike 2 [some (.ref (bx + 0)), some (.int (σ.1)), some (.int (σ.2.1)), some (.int (σ.2.2.1))] [] (Hf σ.2.2.2) (.inl (some (.int r.1)), Hf r.2)) (fun kk hk σ hσ => B_X9_areAlike_2_ok hG E hσ (fun x1 x2 x3 w h9 => hk (x1, x2, x3, w) h9) Hke33 Hke41) n (x1, x2, x3, w) hL
def L_X9_areAlike (o : wO) (a1 : Int32) (a2 : Int32) (w : wS) : Option (Int32 × wS) :=
  P_X9_areAlike_2 o (fun w5 => some (0, w5)) (fun w6 => some (1, w6)) 5000 (a1) (a2) (0) w
set_option maxRecDepth 20000 in
theorem C_X9_areAlike {G : aG} {Hf : wS → aH} {bx : Nat} {o : wO} {a1 : Int32} {a2 : Int32} {w : wS} {r : Int32 × wS} (hG : aGood G) (E : EX Hf bx o) (hL : L_X9_areAlike o a1 a2 w = some r) : AC G M_X9_areAlike [.ref (bx + 0), .int a1, .int a2] (Hf w) (.inl (some (.int r.1)), Hf r.2) := by
  unfold L_X9_areAlike at hL
  refine AC.of (by decide) rfl (Nat.le_of_ble_eq_true rfl) ?_
  show AG G M_X9_areAlike 0 [some (.ref (bx + 0)), some (.int (a1)), some (.int (a2)), none] [] _ _
  refine g_iconst (v := 0) dX9_areAlike_0 (by decide) ?_
  refine g_istore_n (i := 3) dX9_areAlike_1 rfl (by decide) rfl ?_
  refine P_X9_areAlike_2_ok hG E hL ?_ ?_
  · intro w5 hL
    refine g_iconst (v := 0) dX9_areAlike_33 (by decide) ?_
    obtain rfl := Option.some.inj hL
    exact g_zret rfl (by decide) dX9_areAlike_34
  · intro w6 hL
    refine g_iconst (v := 1) dX9_areAlike_41 (by decide) ?_
    obtain rfl := Option.some.inj hL
    exact g_zret rfl (by decide) dX9_areAlike_42
def L_X5_copyAlike_x31_x49 (o : wO) (a2 : Int32) (w : wS) : Option (wS) :=
  xB (xCpy w 32 49 33 697 (0) ((a2 * (17 : Int32))) (17)) fun w1 => some w1
set_option maxRecDepth 20000 in
theorem C_X5_copyAlike_x31_x49 {G : aG} {Hf : wS → aH} {bx : Nat} {o : wO} {a2 : Int32} {w : wS} {r : wS} (hG : aGood G) (E : EX Hf bx o) (hL : L_X5_copyAlike_x31_x49 o a2 w = some r) : AC G M_X5_copyAlike [.ref (bx + 31), .ref (bx + 49), .int a2] (Hf w) (.inl none, Hf r) := by
  unfold L_X5_copyAlike_x31_x49 at hL
  refine AC.of (by decide) rfl (Nat.le_of_ble_eq_true rfl) ?_
  show AG G M_X5_copyAlike 0 [some (.ref (bx + 31)), some (.ref (bx + 49)), some (.int (a2))] [] _ _
  refine g_aload_n dX5_copyAlike_0 rfl rfl ?_
  refine g_none 0 ?_
  refine s_getR (k := 31) (j := 0) E.1 rfl rfl f_X5_11 dX5_copyAlike_1 ?_
  refine g_iconst (v := 0) dX5_copyAlike_4 (by decide) ?_
  refine g_aload_n dX5_copyAlike_5 rfl rfl ?_
  refine g_none 1 ?_
  refine g_iload_n dX5_copyAlike_6 rfl rfl ?_
  refine g_none 2 ?_
  refine g_bipush (v := 17) dX5_copyAlike_7 (by decide) ?_
  refine g_imul dX5_copyAlike_9 ?_
  refine g_bipush (v := 17) dX5_copyAlike_10 (by decide) ?_
  refine s_copy (k0 := 32) (k1 := 49) E.1 E.1 hL rfl rfl (aIn1 450 (by decide +kernel) rfl) ac_nat ac_sta ac_ini (by decide) (Nat.le_of_ble_eq_true rfl) dX5_copyAlike_12 ?_
  intro w1 hL
  obtain rfl := Option.some.inj hL
  exact g_vret rfl dX5_copyAlike_15
def J_X9_round_67 (o : wO) (y0 : Int32) (w : wS) : Option ((Int32 ⊕ String) × wS) :=
  some (.inl (y0), w)
set_option maxRecDepth 20000 in
theorem J_X9_round_67_ok {G : aG} {Hf : wS → aH} {bx : Nat} {o : wO} {y0 : Int32} {w : wS} {r : (Int32 ⊕ String) × wS} (hG : aGood G) (E : EX Hf bx o) (hL : J_X9_round_67 o  y0 w = some r) : AG G M_X9_round 67 [none, none, none, none, none] [.int (y0)] (Hf w) (xRv Hf r) := by
  unfold J_X9_round_67 at hL
  obtain rfl := Option.some.inj hL
  exact g_iret rfl dX9_round_67
def B_X9_round_41 (o : wO) (kh41 : Int32 → Int32 → Int32 → wS → Option ((Int32 ⊕ String) × wS)) (ke57 : Int32 → Int32 → Int32 → wS → Option ((Int32 ⊕ String) × wS)) (ke74 : Int32 → Int32 → wS → Option ((Int32 ⊕ String) × wS)) (x1 : Int32) (x3 : Int32) (x4 : Int32) (w : wS) : Option ((Int32 ⊕ String) × wS) :=
  if x3 ≤ x4 then ke74 (x1) (x3) w else xB2 (L_X9_areAlike o (x4) (x3) w) fun v1 w2 => if v1 = 0 then kh41 (x1) (x3) ((x4 + 1)) w2 else ke57 (x1) (x3) (x4) w2
set_option maxRecDepth 20000 in
theorem B_X9_round_41_ok {G : aG} {Hf : wS → aH} {bx : Nat} {o : wO} {kh41 : Int32 → Int32 → Int32 → wS → Option ((Int32 ⊕ String) × wS)} {ke57 : Int32 → Int32 → Int32 → wS → Option ((Int32 ⊕ String) × wS)} {ke74 : Int32 → Int32 → wS → Option ((Int32 ⊕ String) × wS)} {x1 : Int32} {x3 : Int32} {x4 : Int32} {w : wS} {r : (Int32 ⊕ String) × wS} (hG : aGood G) (E : EX Hf bx o) (hL : B_X9_round_41 o kh41 ke57 ke74 x1 x3 x4 w = some r) (Hkh41 : ∀ (z0 : Int32) (z1 : Int32) (z2 : Int32) (w : wS), kh41 z0 z1 z2 w = some r → AG G M_X9_round 41 [some (.ref (bx + 0)), some (.int (z0)), some (.ref (bx + 30)), some (.int (z1)), some (.int (z2))] [] (Hf w) (xRv Hf r)) (Hke57 : ∀ (z0 : Int32) (z1 : Int32) (z2 : Int32) (w : wS), ke57 z0 z1 z2 w = some r → AG G M_X9_round 57 [none, some (.int (z0)), none, some (.int (z1)), some (.int (z2))] [] (Hf w) (xRv Hf r)) (Hke74 : ∀ (z0 : Int32) (z1 : Int32) (w : wS), ke74 z0 z1 w = some r → AG G M_X9_round 74 [some (.ref (bx + 0)), some (.int (z0)), some (.ref (bx + 30)), some (.int (z1)), none] [] (Hf w) (xRv Hf r)) : AG G M_X9_round 41 [some (.ref (bx + 0)), some (.int (x1)), some (.ref (bx + 30)), some (.int (x3)), some (.int (x4))] [] (Hf w) (xRv Hf r) := by
  unfold B_X9_round_41 at hL
  refine g_iload dX9_round_41 rfl ?_
  refine g_iload_n dX9_round_43 rfl rfl ?_
  refine g_icmp_ge (tgt := 74) dX9_round_44 (by decide) (fun q4 => ?_) (fun q4 => ?_)
  · rw [if_pos q4] at hL
    refine g_none 4 ?_
    exact Hke74 _ _ _ hL
  · rw [if_neg q4] at hL
    refine g_aload_n dX9_round_47 rfl rfl ?_
    refine g_iload dX9_round_48 rfl ?_
    refine g_iload_n dX9_round_50 rfl rfl ?_
    obtain ⟨v1, w2, hc, hL⟩ := xB2_some hL
    refine g_callV (M' := M_X9_areAlike) (as := [.int (x4), .int (x3)]) (v := some (.int (v1))) l_X9_247 kV_X9_areAlike (by decide) (C_X9_areAlike hG E hc) rfl (by have := E.1.1; omega) (E.1.2.1 _ 0 _ rfl) ⟨_, _, rfl⟩ (Nat.le_of_ble_eq_true rfl) dX9_round_51 ?_
    refine g_if_eq (tgt := 68) dX9_round_54 (by decide) (fun q3 => ?_) (fun q3 => ?_)
    · rw [if_pos q3] at hL
      refine g_iincV (v := (x4 + 1)) dX9_round_68 rfl rfl (by decide) rfl ?_
      refine g_goto (tgt := 41) dX9_round_71 (by decide) ?_
      exact Hkh41 _ _ _ _ hL
    · rw [if_neg q3] at hL
      refine g_none 0 ?_
      refine g_none 2 ?_
      exact Hke57 _ _ _ _ hL
def P_X9_round_41 (o : wO) (ke57 : Int32 → Int32 → Int32 → wS → Option ((Int32 ⊕ String) × wS)) (ke74 : Int32 → Int32 → wS → Option ((Int32 ⊕ String) × wS)) (n : Nat) (x1 : Int32) (x3 : Int32) (x4 : Int32) (w : wS) : Option ((Int32 ⊕ String) × wS) :=
  xLoop (fun (kk : Int32 × Int32 × Int32 × wS → Option ((Int32 ⊕ String) × wS)) σ => B_X9_round_41 o (fun x1 x3 x4 w => kk (x1, x3, x4, w)) ke57 ke74 (σ.1) (σ.2.1) (σ.2.2.1) (σ.2.2.2)) n (x1, x3, x4, w)
theorem P_X9_round_41_ok {G : aG} {Hf : wS → aH} {bx : Nat} {o : wO} {ke57 : Int32 → Int32 → Int32 → wS → Option ((Int32 ⊕ String) × wS)} {ke74 : Int32 → Int32 → wS → Option ((Int32 ⊕ String) × wS)} {n : Nat} {x1 : Int32} {x3 : Int32} {x4 : Int32} {w : wS} {r : (Int32 ⊕ String) × wS} (hG : aGood G) (E : EX Hf bx o) (hL : P_X9_round_41 o ke57 ke74 n x1 x3 x4 w = some r) (Hke57 : ∀ (z0 : Int32) (z1 : Int32) (z2 : Int32) (w : wS), ke57 z0 z1 z2 w = some r → AG G M_X9_round 57 [none, some (.int (z0)), none, some (.int (z1)), some (.int (z2))] [] (Hf w) (xRv Hf r)) (Hke74 : ∀ (z0 : Int32) (z1 : Int32) (w : wS), ke74 z0 z1 w = some r → AG G M_X9_round 74 [some (.ref (bx + 0)), some (.int (z0)), some (.ref (bx + 30)), some (.int (z1)), none] [] (Hf w) (xRv Hf r)) : AG G M_X9_round 41 [some (.ref (bx + 0)), some (.int (x1)), some (.ref (bx + 30)), some (.int (x3)), some (.int (x4))] [] (Hf w) (xRv Hf r) :=
  xLoop_ok (Q := fun (σ : Int32 × Int32 × Int32 × wS) => AG G M_X9_round 41 [some (.ref (bx + 0)), some (.int (σ.1)), some (.ref (bx + 30)), some (.int (σ.2.1)), some (.int (σ.2.2.1))] [] (Hf σ.2.2.2) (xRv Hf r)) (fun kk hk σ hσ => B_X9_round_41_ok hG E hσ (fun x1 x3 x4 w h9 => hk (x1, x3, x4, w) h9) Hke57 Hke74) n (x1, x3, x4, w) hL
def J_X9_round_26 (o : wO) (kh12 : Int32 → Int32 → wS → Option ((Int32 ⊕ String) × wS)) (ke57 : Int32 → Int32 → Int32 → wS → Option ((Int32 ⊕ String) × wS)) (ke80 : wS → Option ((Int32 ⊕ String) × wS)) (x1 : Int32) (x3 : Int32) (w : wS) : Option ((Int32 ⊕ String) × wS) :=
  xB (L_X5_copyAlike_x31_x49 o (x3) w) fun w5 => P_X9_round_41 o (fun z6 z7 z8 w9 => ke57 (z6) (z7) (z8) w9) (fun z10 z11 w12 => kh12 (z10) ((z11 + 1)) w12) 5000 (x1) (x3) (0) w5
set_option maxRecDepth 20000 in
theorem J_X9_round_26_ok {G : aG} {Hf : wS → aH} {bx : Nat} {o : wO} {kh12 : Int32 → Int32 → wS → Option ((Int32 ⊕ String) × wS)} {ke57 : Int32 → Int32 → Int32 → wS → Option ((Int32 ⊕ String) × wS)} {ke80 : wS → Option ((Int32 ⊕ String) × wS)} {x1 : Int32} {x3 : Int32} {w : wS} {r : (Int32 ⊕ String) × wS} (hG : aGood G) (E : EX Hf bx o) (hL : J_X9_round_26 o kh12 ke57 ke80 x1 x3 w = some r) (Hkh12 : ∀ (z0 : Int32) (z1 : Int32) (w : wS), kh12 z0 z1 w = some r → AG G M_X9_round 12 [some (.ref (bx + 0)), some (.int (z0)), some (.ref (bx + 30)), some (.int (z1)), none] [] (Hf w) (xRv Hf r)) (Hke57 : ∀ (z0 : Int32) (z1 : Int32) (z2 : Int32) (w : wS), ke57 z0 z1 z2 w = some r → AG G M_X9_round 57 [none, some (.int (z0)), none, some (.int (z1)), some (.int (z2))] [] (Hf w) (xRv Hf r)) (Hke80 : ∀ (w : wS), ke80  w = some r → AG G M_X9_round 80 [none, none, none, none, none] [] (Hf w) (xRv Hf r)) : AG G M_X9_round 26 [some (.ref (bx + 0)), some (.int (x1)), some (.ref (bx + 30)), some (.int (x3)), none] [] (Hf w) (xRv Hf r) := by
  unfold J_X9_round_26 at hL
  refine g_aload_n dX9_round_26 rfl rfl ?_
  refine s_getR (k := 30) (j := 0) E.1 rfl rfl f_X9_200 dX9_round_27 ?_
  refine g_aload_n dX9_round_30 rfl rfl ?_
  refine s_getR (k := 0) (j := 5) E.1 rfl rfl f_X9_39 dX9_round_31 ?_
  refine g_iload_n dX9_round_34 rfl rfl ?_
  obtain ⟨w5, hc, hL⟩ := xB_some hL
  refine g_callV (M' := M_X5_copyAlike) (as := [.ref (bx + 49), .int (x3)]) (v := none) l_X9_243 kV_X5_copyAlike (by decide) (C_X5_copyAlike_x31_x49 hG E hc) rfl (by have := E.1.1; omega) (E.1.2.1 _ 31 _ rfl) ⟨_, _, rfl⟩ (Nat.le_of_ble_eq_true rfl) dX9_round_35 ?_
  refine g_iconst (v := 0) dX9_round_38 (by decide) ?_
  refine g_istore (i := 4) dX9_round_39 (by decide) rfl ?_
  refine P_X9_round_41_ok hG E hL ?_ ?_
  · intro z6 z7 z8 w9 hL
    exact Hke57 _ _ _ _ hL
  · intro z10 z11 w12 hL
    refine g_iincV (v := (z11 + 1)) dX9_round_74 rfl rfl (by decide) rfl ?_
    refine g_goto (tgt := 12) dX9_round_77 (by decide) ?_
    exact Hkh12 _ _ _ hL
def B_X9_round_12 (o : wO) (kh12 : Int32 → Int32 → wS → Option ((Int32 ⊕ String) × wS)) (ke57 : Int32 → Int32 → Int32 → wS → Option ((Int32 ⊕ String) × wS)) (ke80 : wS → Option ((Int32 ⊕ String) × wS)) (x1 : Int32) (x3 : Int32) (w : wS) : Option ((Int32 ⊕ String) × wS) :=
  if 40 < x3 then ke80  w else if x3 ≤ 0 then J_X9_round_26 o kh12 ke57 ke80 (x1) (x3) w else xB (L_X1_oneDay o  w) fun w13 => J_X9_round_26 o kh12 ke57 ke80 (x1) (x3) w13
set_option maxRecDepth 20000 in
theorem B_X9_round_12_ok {G : aG} {Hf : wS → aH} {bx : Nat} {o : wO} {kh12 : Int32 → Int32 → wS → Option ((Int32 ⊕ String) × wS)} {ke57 : Int32 → Int32 → Int32 → wS → Option ((Int32 ⊕ String) × wS)} {ke80 : wS → Option ((Int32 ⊕ String) × wS)} {x1 : Int32} {x3 : Int32} {w : wS} {r : (Int32 ⊕ String) × wS} (hG : aGood G) (E : EX Hf bx o) (hL : B_X9_round_12 o kh12 ke57 ke80 x1 x3 w = some r) (Hkh12 : ∀ (z0 : Int32) (z1 : Int32) (w : wS), kh12 z0 z1 w = some r → AG G M_X9_round 12 [some (.ref (bx + 0)), some (.int (z0)), some (.ref (bx + 30)), some (.int (z1)), none] [] (Hf w) (xRv Hf r)) (Hke57 : ∀ (z0 : Int32) (z1 : Int32) (z2 : Int32) (w : wS), ke57 z0 z1 z2 w = some r → AG G M_X9_round 57 [none, some (.int (z0)), none, some (.int (z1)), some (.int (z2))] [] (Hf w) (xRv Hf r)) (Hke80 : ∀ (w : wS), ke80  w = some r → AG G M_X9_round 80 [none, none, none, none, none] [] (Hf w) (xRv Hf r)) : AG G M_X9_round 12 [some (.ref (bx + 0)), some (.int (x1)), some (.ref (bx + 30)), some (.int (x3)), none] [] (Hf w) (xRv Hf r) := by
  unfold B_X9_round_12 at hL
  refine g_iload_n dX9_round_12 rfl rfl ?_
  refine g_bipush (v := 40) dX9_round_13 (by decide) ?_
  refine g_icmp_gt (tgt := 80) dX9_round_15 (by decide) (fun q15 => ?_) (fun q15 => ?_)
  · rw [if_pos q15] at hL
    refine g_none 0 ?_
    refine g_none 1 ?_
    refine g_none 2 ?_
    refine g_none 3 ?_
    exact Hke80  _ hL
  · rw [if_neg q15] at hL
    refine g_iload_n dX9_round_18 rfl rfl ?_
    refine g_if_le (tgt := 26) dX9_round_19 (by decide) (fun q14 => ?_) (fun q14 => ?_)
    · rw [if_pos q14] at hL
      exact J_X9_round_26_ok hG E hL Hkh12 Hke57 Hke80
    · rw [if_neg q14] at hL
      refine g_aload_n dX9_round_22 rfl rfl ?_
      obtain ⟨w13, hc, hL⟩ := xB_some hL
      refine g_callV (M' := M_X1_oneDay) (as := []) (v := none) l_X9_234 kV_X1_oneDay (by decide) (C_X1_oneDay hG E hc) rfl (by have := E.1.1; omega) (E.1.2.1 _ 30 _ rfl) ⟨_, _, rfl⟩ (Nat.le_of_ble_eq_true rfl) dX9_round_23 ?_
      exact J_X9_round_26_ok hG E hL Hkh12 Hke57 Hke80
def P_X9_round_12 (o : wO) (ke57 : Int32 → Int32 → Int32 → wS → Option ((Int32 ⊕ String) × wS)) (ke80 : wS → Option ((Int32 ⊕ String) × wS)) (n : Nat) (x1 : Int32) (x3 : Int32) (w : wS) : Option ((Int32 ⊕ String) × wS) :=
  xLoop (fun (kk : Int32 × Int32 × wS → Option ((Int32 ⊕ String) × wS)) σ => B_X9_round_12 o (fun x1 x3 w => kk (x1, x3, w)) ke57 ke80 (σ.1) (σ.2.1) (σ.2.2)) n (x1, x3, w)
theorem P_X9_round_12_ok {G : aG} {Hf : wS → aH} {bx : Nat} {o : wO} {ke57 : Int32 → Int32 → Int32 → wS → Option ((Int32 ⊕ String) × wS)} {ke80 : wS → Option ((Int32 ⊕ String) × wS)} {n : Nat} {x1 : Int32} {x3 : Int32} {w : wS} {r : (Int32 ⊕ String) × wS} (hG : aGood G) (E : EX Hf bx o) (hL : P_X9_round_12 o ke57 ke80 n x1 x3 w = some r) (Hke57 : ∀ (z0 : Int32) (z1 : Int32) (z2 : Int32) (w : wS), ke57 z0 z1 z2 w = some r → AG G M_X9_round 57 [none, some (.int (z0)), none, some (.int (z1)), some (.int (z2))] [] (Hf w) (xRv Hf r)) (Hke80 : ∀ (w : wS), ke80  w = some r → AG G M_X9_round 80 [none, none, none, none, none] [] (Hf w) (xRv Hf r)) : AG G M_X9_round 12 [some (.ref (bx + 0)), some (.int (x1)), some (.ref (bx + 30)), some (.int (x3)), none] [] (Hf w) (xRv Hf r) :=
  xLoop_ok (Q := fun (σ : Int32 × Int32 × wS) => AG G M_X9_round 12 [some (.ref (bx + 0)), some (.int (σ.1)), some (.ref (bx + 30)), some (.int (σ.2.1)), none] [] (Hf σ.2.2) (xRv Hf r)) (fun kk hk σ hσ => B_X9_round_12_ok hG E hσ (fun x1 x3 w h9 => hk (x1, x3, w) h9) Hke57 Hke80) n (x1, x3, w) hL
def L_X9_round (o : wO) (a1 : Int32) (w : wS) : Option ((Int32 ⊕ String) × wS) :=
  xBT (L_X9_needWhat (a1) (1)) (fun E9 => some (.inr E9, w)) (xB (L_X9_fromNow o  w) fun w16 => P_X9_round_12 o (fun z17 z18 z19 w20 => if z17 = 0 then J_X9_round_67 o  (z18) w20 else J_X9_round_67 o  (z19) w20) (fun w22 => some (.inl ((-1)), w22)) 5000 (a1) (0) w16)
set_option maxRecDepth 20000 in
theorem C_X9_round {G : aG} {Hf : wS → aH} {bx : Nat} {o : wO} {a1 : Int32} {w : wS} {r : (Int32 ⊕ String) × wS} (hG : aGood G) (E : EX Hf bx o) (hL : L_X9_round o a1 w = some r) : AC G M_X9_round [.ref (bx + 0), .int a1] (Hf w) (xRv Hf r) := by
  unfold L_X9_round at hL
  refine AC.of (by decide) rfl (Nat.le_of_ble_eq_true rfl) ?_
  show AG G M_X9_round 0 [some (.ref (bx + 0)), some (.int (a1)), none, none, none] [] _ _
  refine g_iload_n dX9_round_0 rfl rfl ?_
  refine g_iconst (v := 1) dX9_round_1 (by decide) ?_
  rcases xBT_some hL with ⟨hc, hL⟩ | ⟨E9, hc, hL⟩
  · refine g_callS (M' := M_X9_needWhat) (as := [.int (a1), .int (1)]) (v := none) l_X9_221 kS_X9_needWhat (by decide) (C_X9_needWhat hG hc) rfl (Nat.le_of_ble_eq_true rfl) dX9_round_2 ?_
    refine g_aload_n dX9_round_5 rfl rfl ?_
    obtain ⟨w16, hc, hL⟩ := xB_some hL
    refine g_callV (M' := M_X9_fromNow) (as := []) (v := some (.ref (bx + 30))) l_X9_193 kV_X9_fromNow (by decide) (C_X9_fromNow hG E hc) rfl (by have := E.1.1; omega) (E.1.2.1 _ 0 _ rfl) ⟨_, _, rfl⟩ (Nat.le_of_ble_eq_true rfl) dX9_round_6 ?_
    refine g_astore_n (i := 2) dX9_round_9 rfl (by decide) rfl ?_
    refine g_iconst (v := 0) dX9_round_10 (by decide) ?_
    refine g_istore_n (i := 3) dX9_round_11 rfl (by decide) rfl ?_
    refine P_X9_round_12_ok hG E hL ?_ ?_
    · intro z17 z18 z19 w20 hL
      refine g_iload_n dX9_round_57 rfl rfl ?_
      refine g_none 1 ?_
      refine g_if_ne (tgt := 65) dX9_round_58 (by decide) (fun q21 => ?_) (fun q21 => ?_)
      · rw [if_neg q21] at hL
        refine g_none 3 ?_
        refine g_iload dX9_round_65 rfl ?_
        refine g_none 4 ?_
        exact J_X9_round_67_ok hG E hL 
      · rw [if_pos q21] at hL
        refine g_none 4 ?_
        refine g_iload_n dX9_round_61 rfl rfl ?_
        refine g_none 3 ?_
        refine g_goto (tgt := 67) dX9_round_62 (by decide) ?_
        exact J_X9_round_67_ok hG E hL 
    · intro w22 hL
      refine g_iconst (v := (-1)) dX9_round_80 (by decide) ?_
      obtain rfl := Option.some.inj hL
      exact g_iret rfl dX9_round_81
  · obtain rfl := Option.some.inj hL
    exact g_callSX (M' := M_X9_needWhat) (as := [.int (a1), .int (1)]) (E := E9) (aIn1 1033 (by decide +kernel) rfl) kS_X9_needWhat (by decide) rfl (C_X9_needWhat hG hc) rfl (Nat.le_of_ble_eq_true rfl) dX9_round_2
def B_X9_nextDayTo_7 (o : wO) (kh7 : Int32 → Int32 → wS → Option (wS)) (ke23 : wS → Option (wS)) (x1 : Int32) (x3 : Int32) (w : wS) : Option (wS) :=
  if x1 < x3 then ke23  w else xB (L_X1_turn o (x3) w) fun w1 => kh7 (x1) ((x3 + 1)) w1
set_option maxRecDepth 20000 in
theorem B_X9_nextDayTo_7_ok {G : aG} {Hf : wS → aH} {bx : Nat} {o : wO} {kh7 : Int32 → Int32 → wS → Option (wS)} {ke23 : wS → Option (wS)} {x1 : Int32} {x3 : Int32} {w : wS} {r : wS} (hG : aGood G) (E : EX Hf bx o) (hL : B_X9_nextDayTo_7 o kh7 ke23 x1 x3 w = some r) (Hkh7 : ∀ (z0 : Int32) (z1 : Int32) (w : wS), kh7 z0 z1 w = some r → AG G M_X9_nextDayTo 7 [none, some (.int (z0)), some (.ref (bx + 30)), some (.int (z1))] [] (Hf w) (.inl (some (.ref (bx + 30))), Hf r)) (Hke23 : ∀ (w : wS), ke23  w = some r → AG G M_X9_nextDayTo 23 [none, none, some (.ref (bx + 30)), none] [] (Hf w) (.inl (some (.ref (bx + 30))), Hf r)) : AG G M_X9_nextDayTo 7 [none, some (.int (x1)), some (.ref (bx + 30)), some (.int (x3))] [] (Hf w) (.inl (some (.ref (bx + 30))), Hf r) := by
  unfold B_X9_nextDayTo_7 at hL
  refine g_iload_n dX9_nextDayTo_7 rfl rfl ?_
  refine g_iload_n dX9_nextDayTo_8 rfl rfl ?_
  refine g_icmp_gt (tgt := 23) dX9_nextDayTo_9 (by decide) (fun q2 => ?_) (fun q2 => ?_)
  · rw [if_pos q2] at hL
    refine g_none 1 ?_
    refine g_none 3 ?_
    exact Hke23  _ hL
  · rw [if_neg q2] at hL
    refine g_aload_n dX9_nextDayTo_12 rfl rfl ?_
    refine g_iload_n dX9_nextDayTo_13 rfl rfl ?_
    obtain ⟨w1, hc, hL⟩ := xB_some hL
    refine g_callV (M' := M_X1_turn) (as := [.int (x3)]) (v := none) l_X9_372 kV_X1_turn (by decide) (C_X1_turn hG E hc) rfl (by have := E.1.1; omega) (E.1.2.1 _ 30 _ rfl) ⟨_, _, rfl⟩ (Nat.le_of_ble_eq_true rfl) dX9_nextDayTo_14 ?_
    refine g_iincV (v := (x3 + 1)) dX9_nextDayTo_17 rfl rfl (by decide) rfl ?_
    refine g_goto (tgt := 7) dX9_nextDayTo_20 (by decide) ?_
    exact Hkh7 _ _ _ hL
def P_X9_nextDayTo_7 (o : wO) (ke23 : wS → Option (wS)) (n : Nat) (x1 : Int32) (x3 : Int32) (w : wS) : Option (wS) :=
  xLoop (fun (kk : Int32 × Int32 × wS → Option (wS)) σ => B_X9_nextDayTo_7 o (fun x1 x3 w => kk (x1, x3, w)) ke23 (σ.1) (σ.2.1) (σ.2.2)) n (x1, x3, w)
theorem P_X9_nextDayTo_7_ok {G : aG} {Hf : wS → aH} {bx : Nat} {o : wO} {ke23 : wS → Option (wS)} {n : Nat} {x1 : Int32} {x3 : Int32} {w : wS} {r : wS} (hG : aGood G) (E : EX Hf bx o) (hL : P_X9_nextDayTo_7 o ke23 n x1 x3 w = some r) (Hke23 : ∀ (w : wS), ke23  w = some r → AG G M_X9_nextDayTo 23 [none, none, some (.ref (bx + 30)), none] [] (Hf w) (.inl (some (.ref (bx + 30))), Hf r)) : AG G M_X9_nextDayTo 7 [none, some (.int (x1)), some (.ref (bx + 30)), some (.int (x3))] [] (Hf w) (.inl (some (.ref (bx + 30))), Hf r) :=
  xLoop_ok (Q := fun (σ : Int32 × Int32 × wS) => AG G M_X9_nextDayTo 7 [none, some (.int (σ.1)), some (.ref (bx + 30)), some (.int (σ.2.1))] [] (Hf σ.2.2) (.inl (some (.ref (bx + 30))), Hf r)) (fun kk hk σ hσ => B_X9_nextDayTo_7_ok hG E hσ (fun x1 x3 w h9 => hk (x1, x3, w) h9) Hke23) n (x1, x3, w) hL
def L_X9_nextDayTo (o : wO) (a1 : Int32) (w : wS) : Option (wS) :=
  xB (L_X9_fromNow o  w) fun w3 => P_X9_nextDayTo_7 o (fun w4 => some w4) 5000 (a1) (0) w3
set_option maxRecDepth 20000 in
theorem C_X9_nextDayTo {G : aG} {Hf : wS → aH} {bx : Nat} {o : wO} {a1 : Int32} {w : wS} {r : wS} (hG : aGood G) (E : EX Hf bx o) (hL : L_X9_nextDayTo o a1 w = some r) : AC G M_X9_nextDayTo [.ref (bx + 0), .int a1] (Hf w) (.inl (some (.ref (bx + 30))), Hf r) := by
  unfold L_X9_nextDayTo at hL
  refine AC.of (by decide) rfl (Nat.le_of_ble_eq_true rfl) ?_
  show AG G M_X9_nextDayTo 0 [some (.ref (bx + 0)), some (.int (a1)), none, none] [] _ _
  refine g_aload_n dX9_nextDayTo_0 rfl rfl ?_
  refine g_none 0 ?_
  obtain ⟨w3, hc, hL⟩ := xB_some hL
  refine g_callV (M' := M_X9_fromNow) (as := []) (v := some (.ref (bx + 30))) l_X9_193 kV_X9_fromNow (by decide) (C_X9_fromNow hG E hc) rfl (by have := E.1.1; omega) (E.1.2.1 _ 0 _ rfl) ⟨_, _, rfl⟩ (Nat.le_of_ble_eq_true rfl) dX9_nextDayTo_1 ?_
  refine g_astore_n (i := 2) dX9_nextDayTo_4 rfl (by decide) rfl ?_
  refine g_iconst (v := 0) dX9_nextDayTo_5 (by decide) ?_
  refine g_istore_n (i := 3) dX9_nextDayTo_6 rfl (by decide) rfl ?_
  refine P_X9_nextDayTo_7_ok hG E hL ?_
  · intro w4 hL
    refine g_aload_n dX9_nextDayTo_23 rfl rfl ?_
    refine g_none 2 ?_
    obtain rfl := Option.some.inj hL
    exact g_aret rfl (Or.inl ⟨_, rfl⟩) (Or.inr ⟨_, rfl⟩) dX9_nextDayTo_24
def J_X9_delay_119 (o : wO) (y0 : Int32) (w : wS) : Option ((Int32 ⊕ String) × wS) :=
  some (.inl (y0), w)
set_option maxRecDepth 20000 in
theorem J_X9_delay_119_ok {G : aG} {Hf : wS → aH} {bx : Nat} {o : wO} {y0 : Int32} {w : wS} {r : (Int32 ⊕ String) × wS} (hG : aGood G) (E : EX Hf bx o) (hL : J_X9_delay_119 o  y0 w = some r) : AG G M_X9_delay 119 [none, none, none, none, none, none, none] [.int (y0)] (Hf w) (xRv Hf r) := by
  unfold J_X9_delay_119 at hL
  obtain rfl := Option.some.inj hL
  exact g_iret rfl dX9_delay_119
def J_X9_delay_100 (o : wO) (kh32 : Int32 → Int32 → Int32 → wS → Option ((Int32 ⊕ String) × wS)) (ke106 : Int32 → wS → Option ((Int32 ⊕ String) × wS)) (x1 : Int32) (x4 : Int32) (x5 : Int32) (w : wS) : Option ((Int32 ⊕ String) × wS) :=
  kh32 (x1) (x4) ((x5 + 1)) w
set_option maxRecDepth 20000 in
theorem J_X9_delay_100_ok {G : aG} {Hf : wS → aH} {bx : Nat} {o : wO} {kh32 : Int32 → Int32 → Int32 → wS → Option ((Int32 ⊕ String) × wS)} {ke106 : Int32 → wS → Option ((Int32 ⊕ String) × wS)} {x1 : Int32} {x4 : Int32} {x5 : Int32} {w : wS} {r : (Int32 ⊕ String) × wS} (hG : aGood G) (E : EX Hf bx o) (hL : J_X9_delay_100 o kh32 ke106 x1 x4 x5 w = some r) (Hkh32 : ∀ (z0 : Int32) (z1 : Int32) (z2 : Int32) (w : wS), kh32 z0 z1 z2 w = some r → AG G M_X9_delay 32 [some (.ref (bx + 0)), some (.int (z0)), none, some (.ref (bx + 30)), some (.int (z1)), some (.int (z2)), none] [] (Hf w) (xRv Hf r)) (Hke106 : ∀ (z0 : Int32) (w : wS), ke106 z0 w = some r → AG G M_X9_delay 106 [none, none, none, none, some (.int (z0)), none, none] [] (Hf w) (xRv Hf r)) : AG G M_X9_delay 100 [some (.ref (bx + 0)), some (.int (x1)), none, some (.ref (bx + 30)), some (.int (x4)), some (.int (x5)), none] [] (Hf w) (xRv Hf r) := by
  unfold J_X9_delay_100 at hL
  refine g_iincV (v := (x5 + 1)) dX9_delay_100 rfl rfl (by decide) rfl ?_
  refine g_goto (tgt := 32) dX9_delay_103 (by decide) ?_
  exact Hkh32 _ _ _ _ hL
def J_X9_delay_74 (o : wO) (kh32 : Int32 → Int32 → Int32 → wS → Option ((Int32 ⊕ String) × wS)) (ke106 : Int32 → wS → Option ((Int32 ⊕ String) × wS)) (x1 : Int32) (x4 : Int32) (x5 : Int32) (y0 : Int32) (w : wS) : Option ((Int32 ⊕ String) × wS) :=
  xB (xAld w 35 8 (x5)) fun v1 => xB (xAld w 35 8 (x1)) fun v2 => J_X9_delay_100 o kh32 ke106 (x1) ((xMax (x4) (((v1 + y0) - v2)))) (x5) w
set_option maxRecDepth 20000 in
theorem J_X9_delay_74_ok {G : aG} {Hf : wS → aH} {bx : Nat} {o : wO} {kh32 : Int32 → Int32 → Int32 → wS → Option ((Int32 ⊕ String) × wS)} {ke106 : Int32 → wS → Option ((Int32 ⊕ String) × wS)} {x1 : Int32} {x4 : Int32} {x5 : Int32} {y0 : Int32} {w : wS} {r : (Int32 ⊕ String) × wS} (hG : aGood G) (E : EX Hf bx o) (hL : J_X9_delay_74 o kh32 ke106 x1 x4 x5 y0 w = some r) (Hkh32 : ∀ (z0 : Int32) (z1 : Int32) (z2 : Int32) (w : wS), kh32 z0 z1 z2 w = some r → AG G M_X9_delay 32 [some (.ref (bx + 0)), some (.int (z0)), none, some (.ref (bx + 30)), some (.int (z1)), some (.int (z2)), none] [] (Hf w) (xRv Hf r)) (Hke106 : ∀ (z0 : Int32) (w : wS), ke106 z0 w = some r → AG G M_X9_delay 106 [none, none, none, none, some (.int (z0)), none, none] [] (Hf w) (xRv Hf r)) : AG G M_X9_delay 74 [some (.ref (bx + 0)), some (.int (x1)), none, some (.ref (bx + 30)), some (.int (x4)), some (.int (x5)), none] [.int (y0)] (Hf w) (xRv Hf r) := by
  unfold J_X9_delay_74 at hL
  refine g_istore (i := 6) dX9_delay_74 (by decide) rfl ?_
  refine g_iload dX9_delay_76 rfl ?_
  refine g_none 4 ?_
  refine g_aload_n dX9_delay_78 rfl rfl ?_
  refine s_getR (k := 30) (j := 3) E.1 rfl rfl f_X9_261 dX9_delay_79 ?_
  refine g_iload dX9_delay_82 rfl ?_
  refine s_iald (k := 35) E.1 hL rfl dX9_delay_84 ?_
  intro v1 hL
  refine g_iload dX9_delay_85 rfl ?_
  refine g_none 6 ?_
  refine g_iadd dX9_delay_87 ?_
  refine g_aload_n dX9_delay_88 rfl rfl ?_
  refine s_getR (k := 30) (j := 3) E.1 rfl rfl f_X9_261 dX9_delay_89 ?_
  refine g_iload_n dX9_delay_92 rfl rfl ?_
  refine s_iald (k := 35) E.1 hL rfl dX9_delay_93 ?_
  intro v2 hL
  refine g_isub dX9_delay_94 ?_
  refine g_mmax (aIn1 526 (by decide +kernel) rfl) mmax_1 mmax_2 mmax_3 (by decide) (Nat.le_of_ble_eq_true rfl) dX9_delay_95 ?_
  refine g_istore (i := 4) dX9_delay_98 (by decide) rfl ?_
  exact J_X9_delay_100_ok hG E hL Hkh32 Hke106
def B_X9_delay_32 (o : wO) (kh32 : Int32 → Int32 → Int32 → wS → Option ((Int32 ⊕ String) × wS)) (ke106 : Int32 → wS → Option ((Int32 ⊕ String) × wS)) (x1 : Int32) (x4 : Int32) (x5 : Int32) (w : wS) : Option ((Int32 ⊕ String) × wS) :=
  xIf (xRef w 9 (oT o + 0)) (xB (xGet w 100006) fun v3 => if v3 ≤ x5 then ke106 (x4) w else if x5 = x1 then J_X9_delay_100 o kh32 ke106 (x1) (x4) (x5) w else xB2 (L_X1_canBeLast o (x5) w) fun v4 w5 => if v4 = 0 then J_X9_delay_100 o kh32 ke106 (x1) (x4) (x5) w5 else xB2 (L_X1_leads o (x1) (x5) w5) fun v6 w7 => if v6 = 0 then J_X9_delay_74 o kh32 ke106 (x1) (x4) (x5) (1) w7 else J_X9_delay_74 o kh32 ke106 (x1) (x4) (x5) (0) w7)
set_option maxRecDepth 20000 in
theorem B_X9_delay_32_ok {G : aG} {Hf : wS → aH} {bx : Nat} {o : wO} {kh32 : Int32 → Int32 → Int32 → wS → Option ((Int32 ⊕ String) × wS)} {ke106 : Int32 → wS → Option ((Int32 ⊕ String) × wS)} {x1 : Int32} {x4 : Int32} {x5 : Int32} {w : wS} {r : (Int32 ⊕ String) × wS} (hG : aGood G) (E : EX Hf bx o) (hL : B_X9_delay_32 o kh32 ke106 x1 x4 x5 w = some r) (Hkh32 : ∀ (z0 : Int32) (z1 : Int32) (z2 : Int32) (w : wS), kh32 z0 z1 z2 w = some r → AG G M_X9_delay 32 [some (.ref (bx + 0)), some (.int (z0)), none, some (.ref (bx + 30)), some (.int (z1)), some (.int (z2)), none] [] (Hf w) (xRv Hf r)) (Hke106 : ∀ (z0 : Int32) (w : wS), ke106 z0 w = some r → AG G M_X9_delay 106 [none, none, none, none, some (.int (z0)), none, none] [] (Hf w) (xRv Hf r)) : AG G M_X9_delay 32 [some (.ref (bx + 0)), some (.int (x1)), none, some (.ref (bx + 30)), some (.int (x4)), some (.int (x5)), none] [] (Hf w) (xRv Hf r) := by
  unfold B_X9_delay_32 at hL
  refine g_iload dX9_delay_32 rfl ?_
  refine g_aload_n dX9_delay_34 rfl rfl ?_
  refine s_getT (k := 0) (j := 9) E.1 hL rfl rfl f_X9_55 dX9_delay_35 ?_
  intro hL
  refine s_getI (k := 0) (j := 6) E.2.1 hL rfl rfl f_X9_99 dX9_delay_38 ?_
  intro v3 hL
  refine g_icmp_ge (tgt := 106) dX9_delay_41 (by decide) (fun q11 => ?_) (fun q11 => ?_)
  · rw [if_pos q11] at hL
    refine g_none 0 ?_
    refine g_none 1 ?_
    refine g_none 3 ?_
    refine g_none 5 ?_
    exact Hke106 _ _ hL
  · rw [if_neg q11] at hL
    refine g_iload dX9_delay_44 rfl ?_
    refine g_iload_n dX9_delay_46 rfl rfl ?_
    refine g_icmp_eq (tgt := 100) dX9_delay_47 (by decide) (fun q10 => ?_) (fun q10 => ?_)
    · rw [if_pos q10] at hL
      exact J_X9_delay_100_ok hG E hL Hkh32 Hke106
    · rw [if_neg q10] at hL
      refine g_aload_n dX9_delay_50 rfl rfl ?_
      refine g_iload dX9_delay_51 rfl ?_
      obtain ⟨v4, w5, hc, hL⟩ := xB2_some hL
      refine g_callV (M' := M_X1_canBeLast) (as := [.int (x5)]) (v := some (.int (v4))) l_X9_255 kV_X1_canBeLast (by decide) (C_X1_canBeLast hG E hc) rfl (by have := E.1.1; omega) (E.1.2.1 _ 30 _ rfl) ⟨_, _, rfl⟩ (Nat.le_of_ble_eq_true rfl) dX9_delay_53 ?_
      refine g_if_eq (tgt := 100) dX9_delay_56 (by decide) (fun q9 => ?_) (fun q9 => ?_)
      · rw [if_pos q9] at hL
        exact J_X9_delay_100_ok hG E hL Hkh32 Hke106
      · rw [if_neg q9] at hL
        refine g_aload_n dX9_delay_59 rfl rfl ?_
        refine g_iload_n dX9_delay_60 rfl rfl ?_
        refine g_iload dX9_delay_61 rfl ?_
        obtain ⟨v6, w7, hc, hL⟩ := xB2_some hL
        refine g_callV (M' := M_X1_leads) (as := [.int (x1), .int (x5)]) (v := some (.int (v6))) l_X9_258 kV_X1_leads (by decide) (C_X1_leads hG E hc) rfl (by have := E.1.1; omega) (E.1.2.1 _ 30 _ rfl) ⟨_, _, rfl⟩ (Nat.le_of_ble_eq_true rfl) dX9_delay_63 ?_
        refine g_if_eq (tgt := 73) dX9_delay_66 (by decide) (fun q8 => ?_) (fun q8 => ?_)
        · rw [if_pos q8] at hL
          refine g_iconst (v := 1) dX9_delay_73 (by decide) ?_
          exact J_X9_delay_74_ok hG E hL Hkh32 Hke106
        · rw [if_neg q8] at hL
          refine g_iconst (v := 0) dX9_delay_69 (by decide) ?_
          refine g_goto (tgt := 74) dX9_delay_70 (by decide) ?_
          exact J_X9_delay_74_ok hG E hL Hkh32 Hke106
def P_X9_delay_32 (o : wO) (ke106 : Int32 → wS → Option ((Int32 ⊕ String) × wS)) (n : Nat) (x1 : Int32) (x4 : Int32) (x5 : Int32) (w : wS) : Option ((Int32 ⊕ String) × wS) :=
  xLoop (fun (kk : Int32 × Int32 × Int32 × wS → Option ((Int32 ⊕ String) × wS)) σ => B_X9_delay_32 o (fun x1 x4 x5 w => kk (x1, x4, x5, w)) ke106 (σ.1) (σ.2.1) (σ.2.2.1) (σ.2.2.2)) n (x1, x4, x5, w)
theorem P_X9_delay_32_ok {G : aG} {Hf : wS → aH} {bx : Nat} {o : wO} {ke106 : Int32 → wS → Option ((Int32 ⊕ String) × wS)} {n : Nat} {x1 : Int32} {x4 : Int32} {x5 : Int32} {w : wS} {r : (Int32 ⊕ String) × wS} (hG : aGood G) (E : EX Hf bx o) (hL : P_X9_delay_32 o ke106 n x1 x4 x5 w = some r) (Hke106 : ∀ (z0 : Int32) (w : wS), ke106 z0 w = some r → AG G M_X9_delay 106 [none, none, none, none, some (.int (z0)), none, none] [] (Hf w) (xRv Hf r)) : AG G M_X9_delay 32 [some (.ref (bx + 0)), some (.int (x1)), none, some (.ref (bx + 30)), some (.int (x4)), some (.int (x5)), none] [] (Hf w) (xRv Hf r) :=
  xLoop_ok (Q := fun (σ : Int32 × Int32 × Int32 × wS) => AG G M_X9_delay 32 [some (.ref (bx + 0)), some (.int (σ.1)), none, some (.ref (bx + 30)), some (.int (σ.2.1)), some (.int (σ.2.2.1)), none] [] (Hf σ.2.2.2) (xRv Hf r)) (fun kk hk σ hσ => B_X9_delay_32_ok hG E hσ (fun x1 x4 x5 w h9 => hk (x1, x4, x5, w) h9) Hke106) n (x1, x4, x5, w) hL
def L_X9_delay (o : wO) (a1 : Int32) (a2 : Int32) (w : wS) : Option ((Int32 ⊕ String) × wS) :=
  xBT (L_X9_needPerson o (a1) w) (fun E9 => some (.inr E9, w)) (xBT (L_X9_needDuty o (a2) w) (fun E9 => some (.inr E9, w)) (xB (L_X9_nextDayTo o (a2) w) fun w12 => xB2 (L_X1_canBeLast o (a1) w12) fun v13 w14 => if v13 = 0 then some (.inl ((-1)), w14) else P_X9_delay_32 o (fun z15 w16 => if z15 ≤ 99 then J_X9_delay_119 o  (z15) w16 else J_X9_delay_119 o  ((-1)) w16) 5000 (a1) (0) (0) w14))
set_option maxRecDepth 20000 in
theorem C_X9_delay {G : aG} {Hf : wS → aH} {bx : Nat} {o : wO} {a1 : Int32} {a2 : Int32} {w : wS} {r : (Int32 ⊕ String) × wS} (hG : aGood G) (E : EX Hf bx o) (hL : L_X9_delay o a1 a2 w = some r) : AC G M_X9_delay [.ref (bx + 0), .int a1, .int a2] (Hf w) (xRv Hf r) := by
  unfold L_X9_delay at hL
  refine AC.of (by decide) rfl (Nat.le_of_ble_eq_true rfl) ?_
  show AG G M_X9_delay 0 [some (.ref (bx + 0)), some (.int (a1)), some (.int (a2)), none, none, none, none] [] _ _
  refine g_aload_n dX9_delay_0 rfl rfl ?_
  refine g_iload_n dX9_delay_1 rfl rfl ?_
  rcases xBT_some hL with ⟨hc, hL⟩ | ⟨E9, hc, hL⟩
  · refine g_callV (M' := M_X9_needPerson) (as := [.int (a1)]) (v := none) l_X9_147 kV_X9_needPerson (by decide) (C_X9_needPerson hG E hc) rfl (by have := E.1.1; omega) (E.1.2.1 _ 0 _ rfl) ⟨_, _, rfl⟩ (Nat.le_of_ble_eq_true rfl) dX9_delay_2 ?_
    refine g_aload_n dX9_delay_5 rfl rfl ?_
    refine g_iload_n dX9_delay_6 rfl rfl ?_
    rcases xBT_some hL with ⟨hc, hL⟩ | ⟨E9, hc, hL⟩
    · refine g_callV (M' := M_X9_needDuty) (as := [.int (a2)]) (v := none) l_X9_175 kV_X9_needDuty (by decide) (C_X9_needDuty hG E hc) rfl (by have := E.1.1; omega) (E.1.2.1 _ 0 _ rfl) ⟨_, _, rfl⟩ (Nat.le_of_ble_eq_true rfl) dX9_delay_7 ?_
      refine g_aload_n dX9_delay_10 rfl rfl ?_
      refine g_iload_n dX9_delay_11 rfl rfl ?_
      refine g_none 2 ?_
      obtain ⟨w12, hc, hL⟩ := xB_some hL
      refine g_callV (M' := M_X9_nextDayTo) (as := [.int (a2)]) (v := some (.ref (bx + 30))) l_X9_251 kV_X9_nextDayTo (by decide) (C_X9_nextDayTo hG E hc) rfl (by have := E.1.1; omega) (E.1.2.1 _ 0 _ rfl) ⟨_, _, rfl⟩ (Nat.le_of_ble_eq_true rfl) dX9_delay_12 ?_
      refine g_astore_n (i := 3) dX9_delay_15 rfl (by decide) rfl ?_
      refine g_aload_n dX9_delay_16 rfl rfl ?_
      refine g_iload_n dX9_delay_17 rfl rfl ?_
      obtain ⟨v13, w14, hc, hL⟩ := xB2_some hL
      refine g_callV (M' := M_X1_canBeLast) (as := [.int (a1)]) (v := some (.int (v13))) l_X9_255 kV_X1_canBeLast (by decide) (C_X1_canBeLast hG E hc) rfl (by have := E.1.1; omega) (E.1.2.1 _ 30 _ rfl) ⟨_, _, rfl⟩ (Nat.le_of_ble_eq_true rfl) dX9_delay_18 ?_
      refine g_if_ne (tgt := 26) dX9_delay_21 (by decide) (fun q18 => ?_) (fun q18 => ?_)
      · rw [if_neg q18] at hL
        refine g_iconst (v := 0) dX9_delay_26 (by decide) ?_
        refine g_istore (i := 4) dX9_delay_27 (by decide) rfl ?_
        refine g_iconst (v := 0) dX9_delay_29 (by decide) ?_
        refine g_istore (i := 5) dX9_delay_30 (by decide) rfl ?_
        refine P_X9_delay_32_ok hG E hL ?_
        · intro z15 w16 hL
          refine g_iload dX9_delay_106 rfl ?_
          refine g_bipush (v := 99) dX9_delay_108 (by decide) ?_
          refine g_icmp_le (tgt := 117) dX9_delay_110 (by decide) (fun q17 => ?_) (fun q17 => ?_)
          · rw [if_pos q17] at hL
            refine g_iload dX9_delay_117 rfl ?_
            refine g_none 4 ?_
            exact J_X9_delay_119_ok hG E hL 
          · rw [if_neg q17] at hL
            refine g_none 4 ?_
            refine g_iconst (v := (-1)) dX9_delay_113 (by decide) ?_
            refine g_goto (tgt := 119) dX9_delay_114 (by decide) ?_
            exact J_X9_delay_119_ok hG E hL 
      · rw [if_pos q18] at hL
        refine g_none 0 ?_
        refine g_none 1 ?_
        refine g_none 3 ?_
        refine g_iconst (v := (-1)) dX9_delay_24 (by decide) ?_
        obtain rfl := Option.some.inj hL
        exact g_iret rfl dX9_delay_25
    · obtain rfl := Option.some.inj hL
      exact g_callVX (M' := M_X9_needDuty) (as := [.int (a2)]) (E := E9) (aIn1 972 (by decide +kernel) rfl) kV_X9_needDuty (by decide) rfl (C_X9_needDuty hG E hc) rfl (by have := E.1.1; omega) (E.1.2.1 _ 0 _ rfl) ⟨_, _, rfl⟩ (Nat.le_of_ble_eq_true rfl) dX9_delay_7
  · obtain rfl := Option.some.inj hL
    exact g_callVX (M' := M_X9_needPerson) (as := [.int (a1)]) (E := E9) (aIn1 956 (by decide +kernel) rfl) kV_X9_needPerson (by decide) rfl (C_X9_needPerson hG E hc) rfl (by have := E.1.1; omega) (E.1.2.1 _ 0 _ rfl) ⟨_, _, rfl⟩ (Nat.le_of_ble_eq_true rfl) dX9_delay_2
def B_X9_club_24 (o : wO) (kh24 : Int32 → Int32 → Int32 → wS → Option ((Int32 ⊕ String) × wS)) (ke44 : wS → Option ((Int32 ⊕ String) × wS)) (ke61 : Int32 → wS → Option ((Int32 ⊕ String) × wS)) (x2 : Int32) (x4 : Int32) (x5 : Int32) (w : wS) : Option ((Int32 ⊕ String) × wS) :=
  if x2 ≤ x5 then ke61 (x4) w else xB2 (L_X1_lastWithout o (x4) w) fun v1 w2 => if v1 = (-1) then ke44  w2 else kh24 (x2) ((x4 ||| ((1 : Int32) <<< (v1 &&& 31)))) ((x5 + 1)) w2
set_option maxRecDepth 20000 in
theorem B_X9_club_24_ok {G : aG} {Hf : wS → aH} {bx : Nat} {o : wO} {kh24 : Int32 → Int32 → Int32 → wS → Option ((Int32 ⊕ String) × wS)} {ke44 : wS → Option ((Int32 ⊕ String) × wS)} {ke61 : Int32 → wS → Option ((Int32 ⊕ String) × wS)} {x2 : Int32} {x4 : Int32} {x5 : Int32} {w : wS} {r : (Int32 ⊕ String) × wS} (hG : aGood G) (E : EX Hf bx o) (hL : B_X9_club_24 o kh24 ke44 ke61 x2 x4 x5 w = some r) (Hkh24 : ∀ (z0 : Int32) (z1 : Int32) (z2 : Int32) (w : wS), kh24 z0 z1 z2 w = some r → AG G M_X9_club 24 [none, none, some (.int (z0)), some (.ref (bx + 30)), some (.int (z1)), some (.int (z2)), none] [] (Hf w) (xRv Hf r)) (Hke44 : ∀ (w : wS), ke44  w = some r → AG G M_X9_club 44 [none, none, none, none, none, none, none] [] (Hf w) (xRv Hf r)) (Hke61 : ∀ (z0 : Int32) (w : wS), ke61 z0 w = some r → AG G M_X9_club 61 [none, none, none, none, some (.int (z0)), none, none] [] (Hf w) (xRv Hf r)) : AG G M_X9_club 24 [none, none, some (.int (x2)), some (.ref (bx + 30)), some (.int (x4)), some (.int (x5)), none] [] (Hf w) (xRv Hf r) := by
  unfold B_X9_club_24 at hL
  refine g_iload dX9_club_24 rfl ?_
  refine g_iload_n dX9_club_26 rfl rfl ?_
  refine g_icmp_ge (tgt := 61) dX9_club_27 (by decide) (fun q4 => ?_) (fun q4 => ?_)
  · rw [if_pos q4] at hL
    refine g_none 2 ?_
    refine g_none 3 ?_
    refine g_none 5 ?_
    exact Hke61 _ _ hL
  · rw [if_neg q4] at hL
    refine g_aload_n dX9_club_30 rfl rfl ?_
    refine g_iload dX9_club_31 rfl ?_
    obtain ⟨v1, w2, hc, hL⟩ := xB2_some hL
    refine g_callV (M' := M_X1_lastWithout) (as := [.int (x4)]) (v := some (.int (v1))) l_X9_270 kV_X1_lastWithout (by decide) (C_X1_lastWithout hG E hc) rfl (by have := E.1.1; omega) (E.1.2.1 _ 30 _ rfl) ⟨_, _, rfl⟩ (Nat.le_of_ble_eq_true rfl) dX9_club_33 ?_
    refine g_istore (i := 6) dX9_club_36 (by decide) rfl ?_
    refine g_iload dX9_club_38 rfl ?_
    refine g_iconst (v := (-1)) dX9_club_40 (by decide) ?_
    refine g_icmp_ne (tgt := 46) dX9_club_41 (by decide) (fun q3 => ?_) (fun q3 => ?_)
    · rw [if_neg q3] at hL
      refine g_iload dX9_club_46 rfl ?_
      refine g_none 4 ?_
      refine g_iconst (v := 1) dX9_club_48 (by decide) ?_
      refine g_iload dX9_club_49 rfl ?_
      refine g_none 6 ?_
      refine g_ishl dX9_club_51 ?_
      refine g_ior dX9_club_52 ?_
      refine g_istore (i := 4) dX9_club_53 (by decide) rfl ?_
      refine g_iincV (v := (x5 + 1)) dX9_club_55 rfl rfl (by decide) rfl ?_
      refine g_goto (tgt := 24) dX9_club_58 (by decide) ?_
      exact Hkh24 _ _ _ _ hL
    · rw [if_pos q3] at hL
      refine g_none 2 ?_
      refine g_none 3 ?_
      refine g_none 4 ?_
      refine g_none 5 ?_
      refine g_none 6 ?_
      exact Hke44  _ hL
def P_X9_club_24 (o : wO) (ke44 : wS → Option ((Int32 ⊕ String) × wS)) (ke61 : Int32 → wS → Option ((Int32 ⊕ String) × wS)) (n : Nat) (x2 : Int32) (x4 : Int32) (x5 : Int32) (w : wS) : Option ((Int32 ⊕ String) × wS) :=
  xLoop (fun (kk : Int32 × Int32 × Int32 × wS → Option ((Int32 ⊕ String) × wS)) σ => B_X9_club_24 o (fun x2 x4 x5 w => kk (x2, x4, x5, w)) ke44 ke61 (σ.1) (σ.2.1) (σ.2.2.1) (σ.2.2.2)) n (x2, x4, x5, w)
theorem P_X9_club_24_ok {G : aG} {Hf : wS → aH} {bx : Nat} {o : wO} {ke44 : wS → Option ((Int32 ⊕ String) × wS)} {ke61 : Int32 → wS → Option ((Int32 ⊕ String) × wS)} {n : Nat} {x2 : Int32} {x4 : Int32} {x5 : Int32} {w : wS} {r : (Int32 ⊕ String) × wS} (hG : aGood G) (E : EX Hf bx o) (hL : P_X9_club_24 o ke44 ke61 n x2 x4 x5 w = some r) (Hke44 : ∀ (w : wS), ke44  w = some r → AG G M_X9_club 44 [none, none, none, none, none, none, none] [] (Hf w) (xRv Hf r)) (Hke61 : ∀ (z0 : Int32) (w : wS), ke61 z0 w = some r → AG G M_X9_club 61 [none, none, none, none, some (.int (z0)), none, none] [] (Hf w) (xRv Hf r)) : AG G M_X9_club 24 [none, none, some (.int (x2)), some (.ref (bx + 30)), some (.int (x4)), some (.int (x5)), none] [] (Hf w) (xRv Hf r) :=
  xLoop_ok (Q := fun (σ : Int32 × Int32 × Int32 × wS) => AG G M_X9_club 24 [none, none, some (.int (σ.1)), some (.ref (bx + 30)), some (.int (σ.2.1)), some (.int (σ.2.2.1)), none] [] (Hf σ.2.2.2) (xRv Hf r)) (fun kk hk σ hσ => B_X9_club_24_ok hG E hσ (fun x2 x4 x5 w h9 => hk (x2, x4, x5, w) h9) Hke44 Hke61) n (x2, x4, x5, w) hL
def L_X9_club (o : wO) (a1 : Int32) (a2 : Int32) (w : wS) : Option ((Int32 ⊕ String) × wS) :=
  xBT (L_X9_needDuty o (a1) w) (fun E9 => some (.inr E9, w)) (xBT (L_X9_needRange (a2) (1) (6)) (fun E9 => some (.inr E9, w)) (xB (L_X9_nextDayTo o (a1) w) fun w5 => P_X9_club_24 o (fun w6 => some (.inl ((-1)), w6)) (fun z7 w8 => some (.inl (z7), w8)) 5000 (a2) (0) (0) w5))
set_option maxRecDepth 20000 in
theorem C_X9_club {G : aG} {Hf : wS → aH} {bx : Nat} {o : wO} {a1 : Int32} {a2 : Int32} {w : wS} {r : (Int32 ⊕ String) × wS} (hG : aGood G) (E : EX Hf bx o) (hL : L_X9_club o a1 a2 w = some r) : AC G M_X9_club [.ref (bx + 0), .int a1, .int a2] (Hf w) (xRv Hf r) := by
  unfold L_X9_club at hL
  refine AC.of (by decide) rfl (Nat.le_of_ble_eq_true rfl) ?_
  show AG G M_X9_club 0 [some (.ref (bx + 0)), some (.int (a1)), some (.int (a2)), none, none, none, none] [] _ _
  refine g_aload_n dX9_club_0 rfl rfl ?_
  refine g_iload_n dX9_club_1 rfl rfl ?_
  rcases xBT_some hL with ⟨hc, hL⟩ | ⟨E9, hc, hL⟩
  · refine g_callV (M' := M_X9_needDuty) (as := [.int (a1)]) (v := none) l_X9_175 kV_X9_needDuty (by decide) (C_X9_needDuty hG E hc) rfl (by have := E.1.1; omega) (E.1.2.1 _ 0 _ rfl) ⟨_, _, rfl⟩ (Nat.le_of_ble_eq_true rfl) dX9_club_2 ?_
    refine g_iload_n dX9_club_5 rfl rfl ?_
    refine g_iconst (v := 1) dX9_club_6 (by decide) ?_
    refine g_bipush (v := 6) dX9_club_7 (by decide) ?_
    rcases xBT_some hL with ⟨hc, hL⟩ | ⟨E9, hc, hL⟩
    · refine g_callS (M' := M_X9_needRange) (as := [.int (a2), .int (1), .int (6)]) (v := none) l_X9_224 kS_X9_needRange (by decide) (C_X9_needRange hG hc) rfl (Nat.le_of_ble_eq_true rfl) dX9_club_9 ?_
      refine g_aload_n dX9_club_12 rfl rfl ?_
      refine g_none 0 ?_
      refine g_iload_n dX9_club_13 rfl rfl ?_
      refine g_none 1 ?_
      obtain ⟨w5, hc, hL⟩ := xB_some hL
      refine g_callV (M' := M_X9_nextDayTo) (as := [.int (a1)]) (v := some (.ref (bx + 30))) l_X9_251 kV_X9_nextDayTo (by decide) (C_X9_nextDayTo hG E hc) rfl (by have := E.1.1; omega) (E.1.2.1 _ 0 _ rfl) ⟨_, _, rfl⟩ (Nat.le_of_ble_eq_true rfl) dX9_club_14 ?_
      refine g_astore_n (i := 3) dX9_club_17 rfl (by decide) rfl ?_
      refine g_iconst (v := 0) dX9_club_18 (by decide) ?_
      refine g_istore (i := 4) dX9_club_19 (by decide) rfl ?_
      refine g_iconst (v := 0) dX9_club_21 (by decide) ?_
      refine g_istore (i := 5) dX9_club_22 (by decide) rfl ?_
      refine P_X9_club_24_ok hG E hL ?_ ?_
      · intro w6 hL
        refine g_iconst (v := (-1)) dX9_club_44 (by decide) ?_
        obtain rfl := Option.some.inj hL
        exact g_iret rfl dX9_club_45
      · intro z7 w8 hL
        refine g_iload dX9_club_61 rfl ?_
        refine g_none 4 ?_
        obtain rfl := Option.some.inj hL
        exact g_iret rfl dX9_club_63
    · obtain rfl := Option.some.inj hL
      exact g_callSX (M' := M_X9_needRange) (as := [.int (a2), .int (1), .int (6)]) (E := E9) (aIn1 1037 (by decide +kernel) rfl) kS_X9_needRange (by decide) rfl (C_X9_needRange hG hc) rfl (Nat.le_of_ble_eq_true rfl) dX9_club_9
  · obtain rfl := Option.some.inj hL
    exact g_callVX (M' := M_X9_needDuty) (as := [.int (a1)]) (E := E9) (aIn1 972 (by decide +kernel) rfl) kV_X9_needDuty (by decide) rfl (C_X9_needDuty hG E hc) rfl (by have := E.1.1; omega) (E.1.2.1 _ 0 _ rfl) ⟨_, _, rfl⟩ (Nat.le_of_ble_eq_true rfl) dX9_club_2
def J_X9_mayHave_39 (o : wO) (y0 : Int32) (w : wS) : Option (Int32 × wS) :=
  xB (xBool (y0)) fun v1 => some (v1, w)
set_option maxRecDepth 20000 in
theorem J_X9_mayHave_39_ok {G : aG} {Hf : wS → aH} {bx : Nat} {o : wO} {y0 : Int32} {w : wS} {r : Int32 × wS} (hG : aGood G) (E : EX Hf bx o) (hL : J_X9_mayHave_39 o  y0 w = some r) : AG G M_X9_mayHave 39 [none, none, none] [.int (y0)] (Hf w) (.inl (some (.int r.1)), Hf r.2) := by
  unfold J_X9_mayHave_39 at hL
  obtain ⟨v1, hb, hR⟩ := xB_some hL
  obtain ⟨hz, hb2⟩ := xBool_some hb
  clear hL
  subst hz
  obtain rfl := Option.some.inj hR
  exact g_zret rfl (narrow_bool hb2) dX9_mayHave_39
def J_X9_mayHave_38 (o : wO) (w : wS) : Option (Int32 × wS) :=
  J_X9_mayHave_39 o  (0) w
set_option maxRecDepth 20000 in
theorem J_X9_mayHave_38_ok {G : aG} {Hf : wS → aH} {bx : Nat} {o : wO} {w : wS} {r : Int32 × wS} (hG : aGood G) (E : EX Hf bx o) (hL : J_X9_mayHave_38 o   w = some r) : AG G M_X9_mayHave 38 [none, none, none] [] (Hf w) (.inl (some (.int r.1)), Hf r.2) := by
  unfold J_X9_mayHave_38 at hL
  refine g_iconst (v := 0) dX9_mayHave_38 (by decide) ?_
  exact J_X9_mayHave_39_ok hG E hL 
def L_X9_mayHave (o : wO) (a1 : Int32) (a2 : Int32) (w : wS) : Option (Int32 × wS) :=
  if ((a2 >>> (a1 &&& 31)) &&& (1 : Int32)) = 0 then xIf (xRef w 9 (oT o + 0)) (xB (xAld w 1001 8 (a1)) fun v2 => if v2 = 0 then xB2 (L_X5_isIll_x13 o (a1) w) fun v3 w4 => if v3 = 0 then J_X9_mayHave_39 o  (1) w4 else J_X9_mayHave_38 o   w4 else J_X9_mayHave_38 o   w) else J_X9_mayHave_38 o   w
set_option maxRecDepth 20000 in
theorem C_X9_mayHave {G : aG} {Hf : wS → aH} {bx : Nat} {o : wO} {a1 : Int32} {a2 : Int32} {w : wS} {r : Int32 × wS} (hG : aGood G) (E : EX Hf bx o) (hL : L_X9_mayHave o a1 a2 w = some r) : AC G M_X9_mayHave [.ref (bx + 0), .int a1, .int a2] (Hf w) (.inl (some (.int r.1)), Hf r.2) := by
  unfold L_X9_mayHave at hL
  refine AC.of (by decide) rfl (Nat.le_of_ble_eq_true rfl) ?_
  show AG G M_X9_mayHave 0 [some (.ref (bx + 0)), some (.int (a1)), some (.int (a2))] [] _ _
  refine g_iload_n dX9_mayHave_0 rfl rfl ?_
  refine g_none 2 ?_
  refine g_iload_n dX9_mayHave_1 rfl rfl ?_
  refine g_ishr dX9_mayHave_2 ?_
  refine g_iconst (v := 1) dX9_mayHave_3 (by decide) ?_
  refine g_iand dX9_mayHave_4 ?_
  refine g_if_ne (tgt := 38) dX9_mayHave_5 (by decide) (fun q7 => ?_) (fun q7 => ?_)
  · rw [if_neg q7] at hL
    refine g_none 0 ?_
    refine g_none 1 ?_
    exact J_X9_mayHave_38_ok hG E hL 
  · rw [if_pos q7] at hL
    refine g_aload_n dX9_mayHave_8 rfl rfl ?_
    refine s_getT (k := 0) (j := 9) E.1 hL rfl rfl f_X9_55 dX9_mayHave_9 ?_
    intro hL
    refine s_getR (k := 0) (j := 0) E.2.1 rfl rfl f_X9_166 dX9_mayHave_12 ?_
    refine g_iload_n dX9_mayHave_15 rfl rfl ?_
    refine s_iald (k := 1) E.2.1 hL rfl dX9_mayHave_16 ?_
    intro v2 hL
    refine g_if_ne (tgt := 38) dX9_mayHave_17 (by decide) (fun q6 => ?_) (fun q6 => ?_)
    · rw [if_neg q6] at hL
      refine g_none 0 ?_
      refine g_none 1 ?_
      exact J_X9_mayHave_38_ok hG E hL 
    · rw [if_pos q6] at hL
      refine g_aload_n dX9_mayHave_20 rfl rfl ?_
      refine g_none 0 ?_
      refine s_getR (k := 0) (j := 1) E.1 rfl rfl f_X9_19 dX9_mayHave_21 ?_
      refine s_getR (k := 12) (j := 0) E.1 rfl rfl f_X9_108 dX9_mayHave_24 ?_
      refine g_iload_n dX9_mayHave_27 rfl rfl ?_
      refine g_none 1 ?_
      obtain ⟨v3, w4, hc, hL⟩ := xB2_some hL
      refine g_callV (M' := M_X5_isIll) (as := [.int (a1)]) (v := some (.int (v3))) l_X9_169 kV_X5_isIll (by decide) (C_X5_isIll_x13 hG E hc) rfl (by have := E.1.1; omega) (E.1.2.1 _ 13 _ rfl) ⟨_, _, rfl⟩ (Nat.le_of_ble_eq_true rfl) dX9_mayHave_28 ?_
      refine g_if_ne (tgt := 38) dX9_mayHave_31 (by decide) (fun q5 => ?_) (fun q5 => ?_)
      · rw [if_neg q5] at hL
        exact J_X9_mayHave_38_ok hG E hL 
      · rw [if_pos q5] at hL
        refine g_iconst (v := 1) dX9_mayHave_34 (by decide) ?_
        refine g_goto (tgt := 39) dX9_mayHave_35 (by decide) ?_
        exact J_X9_mayHave_39_ok hG E hL 
def J_X9_firstOfRota_50 (o : wO) (kh2 : Int32 → Int32 → Int32 → wS → Option (Int32 × wS)) (ke48 : Int32 → wS → Option (Int32 × wS)) (ke56 : wS → Option (Int32 × wS)) (x1 : Int32) (x2 : Int32) (x3 : Int32) (w : wS) : Option (Int32 × wS) :=
  kh2 (x1) (x2) ((x3 + 1)) w
set_option maxRecDepth 20000 in
theorem J_X9_firstOfRota_50_ok {G : aG} {Hf : wS → aH} {bx : Nat} {o : wO} {kh2 : Int32 → Int32 → Int32 → wS → Option (Int32 × wS)} {ke48 : Int32 → wS → Option (Int32 × wS)} {ke56 : wS → Option (Int32 × wS)} {x1 : Int32} {x2 : Int32} {x3 : Int32} {w : wS} {r : Int32 × wS} (hG : aGood G) (E : EX Hf bx o) (hL : J_X9_firstOfRota_50 o kh2 ke48 ke56 x1 x2 x3 w = some r) (Hkh2 : ∀ (z0 : Int32) (z1 : Int32) (z2 : Int32) (w : wS), kh2 z0 z1 z2 w = some r → AG G M_X9_firstOfRota 2 [some (.ref (bx + 0)), some (.int (z0)), some (.int (z1)), some (.int (z2))] [] (Hf w) (.inl (some (.int r.1)), Hf r.2)) (Hke48 : ∀ (z0 : Int32) (w : wS), ke48 z0 w = some r → AG G M_X9_firstOfRota 48 [none, none, none, some (.int (z0))] [] (Hf w) (.inl (some (.int r.1)), Hf r.2)) (Hke56 : ∀ (w : wS), ke56  w = some r → AG G M_X9_firstOfRota 56 [none, none, none, none] [] (Hf w) (.inl (some (.int r.1)), Hf r.2)) : AG G M_X9_firstOfRota 50 [some (.ref (bx + 0)), some (.int (x1)), some (.int (x2)), some (.int (x3))] [] (Hf w) (.inl (some (.int r.1)), Hf r.2) := by
  unfold J_X9_firstOfRota_50 at hL
  refine g_iincV (v := (x3 + 1)) dX9_firstOfRota_50 rfl rfl (by decide) rfl ?_
  refine g_goto (tgt := 2) dX9_firstOfRota_53 (by decide) ?_
  exact Hkh2 _ _ _ _ hL
def B_X9_firstOfRota_2 (o : wO) (kh2 : Int32 → Int32 → Int32 → wS → Option (Int32 × wS)) (ke48 : Int32 → wS → Option (Int32 × wS)) (ke56 : wS → Option (Int32 × wS)) (x1 : Int32) (x2 : Int32) (x3 : Int32) (w : wS) : Option (Int32 × wS) :=
  xIf (xRef w 9 (oT o + 0)) (xB (xGet w 100006) fun v1 => if v1 ≤ x3 then ke56  w else xB2 (L_X9_mayHave o (x3) (x2) w) fun v2 w3 => if v2 = 0 then J_X9_firstOfRota_50 o kh2 ke48 ke56 (x1) (x2) (x3) w3 else xB2 (L_X9_wayNow o (x3) (x1) w3) fun v4 w5 => xB (xAld w5 50 256 ((x2 ||| ((1 : Int32) <<< (x3 &&& 31))))) fun v6 => xB (xAld w5 50 256 (x2)) fun v7 => if (v4 + v6) = v7 then ke48 (x3) w5 else J_X9_firstOfRota_50 o kh2 ke48 ke56 (x1) (x2) (x3) w5)
set_option maxRecDepth 20000 in
theorem B_X9_firstOfRota_2_ok {G : aG} {Hf : wS → aH} {bx : Nat} {o : wO} {kh2 : Int32 → Int32 → Int32 → wS → Option (Int32 × wS)} {ke48 : Int32 → wS → Option (Int32 × wS)} {ke56 : wS → Option (Int32 × wS)} {x1 : Int32} {x2 : Int32} {x3 : Int32} {w : wS} {r : Int32 × wS} (hG : aGood G) (E : EX Hf bx o) (hL : B_X9_firstOfRota_2 o kh2 ke48 ke56 x1 x2 x3 w = some r) (Hkh2 : ∀ (z0 : Int32) (z1 : Int32) (z2 : Int32) (w : wS), kh2 z0 z1 z2 w = some r → AG G M_X9_firstOfRota 2 [some (.ref (bx + 0)), some (.int (z0)), some (.int (z1)), some (.int (z2))] [] (Hf w) (.inl (some (.int r.1)), Hf r.2)) (Hke48 : ∀ (z0 : Int32) (w : wS), ke48 z0 w = some r → AG G M_X9_firstOfRota 48 [none, none, none, some (.int (z0))] [] (Hf w) (.inl (some (.int r.1)), Hf r.2)) (Hke56 : ∀ (w : wS), ke56  w = some r → AG G M_X9_firstOfRota 56 [none, none, none, none] [] (Hf w) (.inl (some (.int r.1)), Hf r.2)) : AG G M_X9_firstOfRota 2 [some (.ref (bx + 0)), some (.int (x1)), some (.int (x2)), some (.int (x3))] [] (Hf w) (.inl (some (.int r.1)), Hf r.2) := by
  unfold B_X9_firstOfRota_2 at hL
  refine g_iload_n dX9_firstOfRota_2 rfl rfl ?_
  refine g_aload_n dX9_firstOfRota_3 rfl rfl ?_
  refine s_getT (k := 0) (j := 9) E.1 hL rfl rfl f_X9_55 dX9_firstOfRota_4 ?_
  intro hL
  refine s_getI (k := 0) (j := 6) E.2.1 hL rfl rfl f_X9_99 dX9_firstOfRota_7 ?_
  intro v1 hL
  refine g_icmp_ge (tgt := 56) dX9_firstOfRota_10 (by decide) (fun q10 => ?_) (fun q10 => ?_)
  · rw [if_pos q10] at hL
    refine g_none 0 ?_
    refine g_none 1 ?_
    refine g_none 2 ?_
    refine g_none 3 ?_
    exact Hke56  _ hL
  · rw [if_neg q10] at hL
    refine g_aload_n dX9_firstOfRota_13 rfl rfl ?_
    refine g_iload_n dX9_firstOfRota_14 rfl rfl ?_
    refine g_iload_n dX9_firstOfRota_15 rfl rfl ?_
    obtain ⟨v2, w3, hc, hL⟩ := xB2_some hL
    refine g_callV (M' := M_X9_mayHave) (as := [.int (x3), .int (x2)]) (v := some (.int (v2))) l_X9_379 kV_X9_mayHave (by decide) (C_X9_mayHave hG E hc) rfl (by have := E.1.1; omega) (E.1.2.1 _ 0 _ rfl) ⟨_, _, rfl⟩ (Nat.le_of_ble_eq_true rfl) dX9_firstOfRota_16 ?_
    refine g_if_eq (tgt := 50) dX9_firstOfRota_19 (by decide) (fun q9 => ?_) (fun q9 => ?_)
    · rw [if_pos q9] at hL
      exact J_X9_firstOfRota_50_ok hG E hL Hkh2 Hke48 Hke56
    · rw [if_neg q9] at hL
      refine g_aload_n dX9_firstOfRota_22 rfl rfl ?_
      refine g_iload_n dX9_firstOfRota_23 rfl rfl ?_
      refine g_iload_n dX9_firstOfRota_24 rfl rfl ?_
      obtain ⟨v4, w5, hc, hL⟩ := xB2_some hL
      refine g_callV (M' := M_X9_wayNow) (as := [.int (x3), .int (x1)]) (v := some (.int (v4))) l_X9_346 kV_X9_wayNow (by decide) (C_X9_wayNow hG E hc) rfl (by have := E.1.1; omega) (E.1.2.1 _ 0 _ rfl) ⟨_, _, rfl⟩ (Nat.le_of_ble_eq_true rfl) dX9_firstOfRota_25 ?_
      refine g_aload_n dX9_firstOfRota_28 rfl rfl ?_
      refine s_getR (k := 0) (j := 6) E.1 rfl rfl f_X9_42 dX9_firstOfRota_29 ?_
      refine g_iload_n dX9_firstOfRota_32 rfl rfl ?_
      refine g_iconst (v := 1) dX9_firstOfRota_33 (by decide) ?_
      refine g_iload_n dX9_firstOfRota_34 rfl rfl ?_
      refine g_ishl dX9_firstOfRota_35 ?_
      refine g_ior dX9_firstOfRota_36 ?_
      refine s_iald (k := 50) E.1 hL rfl dX9_firstOfRota_37 ?_
      intro v6 hL
      refine g_iadd dX9_firstOfRota_38 ?_
      refine g_aload_n dX9_firstOfRota_39 rfl rfl ?_
      refine s_getR (k := 0) (j := 6) E.1 rfl rfl f_X9_42 dX9_firstOfRota_40 ?_
      refine g_iload_n dX9_firstOfRota_43 rfl rfl ?_
      refine s_iald (k := 50) E.1 hL rfl dX9_firstOfRota_44 ?_
      intro v7 hL
      refine g_icmp_ne (tgt := 50) dX9_firstOfRota_45 (by decide) (fun q8 => ?_) (fun q8 => ?_)
      · rw [if_neg q8] at hL
        exact J_X9_firstOfRota_50_ok hG E hL Hkh2 Hke48 Hke56
      · rw [if_pos q8] at hL
        refine g_none 0 ?_
        refine g_none 1 ?_
        refine g_none 2 ?_
        exact Hke48 _ _ hL
def P_X9_firstOfRota_2 (o : wO) (ke48 : Int32 → wS → Option (Int32 × wS)) (ke56 : wS → Option (Int32 × wS)) (n : Nat) (x1 : Int32) (x2 : Int32) (x3 : Int32) (w : wS) : Option (Int32 × wS) :=
  xLoop (fun (kk : Int32 × Int32 × Int32 × wS → Option (Int32 × wS)) σ => B_X9_firstOfRota_2 o (fun x1 x2 x3 w => kk (x1, x2, x3, w)) ke48 ke56 (σ.1) (σ.2.1) (σ.2.2.1) (σ.2.2.2)) n (x1, x2, x3, w)
theorem P_X9_firstOfRota_2_ok {G : aG} {Hf : wS → aH} {bx : Nat} {o : wO} {ke48 : Int32 → wS → Option (Int32 × wS)} {ke56 : wS → Option (Int32 × wS)} {n : Nat} {x1 : Int32} {x2 : Int32} {x3 : Int32} {w : wS} {r : Int32 × wS} (hG : aGood G) (E : EX Hf bx o) (hL : P_X9_firstOfRota_2 o ke48 ke56 n x1 x2 x3 w = some r) (Hke48 : ∀ (z0 : Int32) (w : wS), ke48 z0 w = some r → AG G M_X9_firstOfRota 48 [none, none, none, some (.int (z0))] [] (Hf w) (.inl (some (.int r.1)), Hf r.2)) (Hke56 : ∀ (w : wS), ke56  w = some r → AG G M_X9_firstOfRota 56 [none, none, none, none] [] (Hf w) (.inl (some (.int r.1)), Hf r.2)) : AG G M_X9_firstOfRota 2 [some (.ref (bx + 0)), some (.int (x1)), some (.int (x2)), some (.int (x3))] [] (Hf w) (.inl (some (.int r.1)), Hf r.2) :=
  xLoop_ok (Q := fun (σ : Int32 × Int32 × Int32 × wS) => AG G M_X9_firstOfRota 2 [some (.ref (bx + 0)), some (.int (σ.1)), some (.int (σ.2.1)), some (.int (σ.2.2.1))] [] (Hf σ.2.2.2) (.inl (some (.int r.1)), Hf r.2)) (fun kk hk σ hσ => B_X9_firstOfRota_2_ok hG E hσ (fun x1 x2 x3 w h9 => hk (x1, x2, x3, w) h9) Hke48 Hke56) n (x1, x2, x3, w) hL
def L_X9_firstOfRota (o : wO) (a1 : Int32) (a2 : Int32) (w : wS) : Option (Int32 × wS) :=
  P_X9_firstOfRota_2 o (fun z11 w12 => some (z11, w12)) (fun w13 => some ((-1), w13)) 5000 (a1) (a2) (0) w
set_option maxRecDepth 20000 in
theorem C_X9_firstOfRota {G : aG} {Hf : wS → aH} {bx : Nat} {o : wO} {a1 : Int32} {a2 : Int32} {w : wS} {r : Int32 × wS} (hG : aGood G) (E : EX Hf bx o) (hL : L_X9_firstOfRota o a1 a2 w = some r) : AC G M_X9_firstOfRota [.ref (bx + 0), .int a1, .int a2] (Hf w) (.inl (some (.int r.1)), Hf r.2) := by
  unfold L_X9_firstOfRota at hL
  refine AC.of (by decide) rfl (Nat.le_of_ble_eq_true rfl) ?_
  show AG G M_X9_firstOfRota 0 [some (.ref (bx + 0)), some (.int (a1)), some (.int (a2)), none] [] _ _
  refine g_iconst (v := 0) dX9_firstOfRota_0 (by decide) ?_
  refine g_istore_n (i := 3) dX9_firstOfRota_1 rfl (by decide) rfl ?_
  refine P_X9_firstOfRota_2_ok hG E hL ?_ ?_
  · intro z11 w12 hL
    refine g_iload_n dX9_firstOfRota_48 rfl rfl ?_
    refine g_none 3 ?_
    obtain rfl := Option.some.inj hL
    exact g_iret rfl dX9_firstOfRota_49
  · intro w13 hL
    refine g_iconst (v := (-1)) dX9_firstOfRota_56 (by decide) ?_
    obtain rfl := Option.some.inj hL
    exact g_iret rfl dX9_firstOfRota_57
def L_J6_bitCount_0f7a4 (a1 : Int32) : Option (Int32) :=
  xB (some ((a1 - (((((a1 : Int32).toUInt32 >>> (((1 : Int32) : Int32).toUInt32 &&& Int32.toUInt32 31)).toInt32)) &&& (1431655765 : Int32))))) fun v1 => xB (some (((v1 &&& (858993459 : Int32)) + (((((v1 : Int32).toUInt32 >>> (((2 : Int32) : Int32).toUInt32 &&& Int32.toUInt32 31)).toInt32)) &&& (858993459 : Int32))))) fun v2 => xB (some (((v2 + ((((v2 : Int32).toUInt32 >>> (((4 : Int32) : Int32).toUInt32 &&& Int32.toUInt32 31)).toInt32))) &&& (252645135 : Int32)))) fun v3 => xB (some ((v3 + ((((v3 : Int32).toUInt32 >>> (((8 : Int32) : Int32).toUInt32 &&& Int32.toUInt32 31)).toInt32))))) fun v4 => xB (some ((v4 + ((((v4 : Int32).toUInt32 >>> (((16 : Int32) : Int32).toUInt32 &&& Int32.toUInt32 31)).toInt32))))) fun v5 => some ((v5 &&& (63 : Int32)))
set_option maxRecDepth 20000 in
theorem C_J6_bitCount_0f7a4 {G : aG} {h : aH} {a1 : Int32} {r : Int32} (hL : L_J6_bitCount_0f7a4 a1 = some r) : AC G M_J6_bitCount_0f7a4 [.int a1] h (.inl (some (.int r)), h) := by
  unfold L_J6_bitCount_0f7a4 at hL
  refine AC.of (by decide) rfl (Nat.le_of_ble_eq_true rfl) ?_
  show AG G M_J6_bitCount_0f7a4 0 [some (.int (a1))] [] _ _
  refine g_iload_n dJ6_bitCount_0f7a4_0 rfl rfl ?_
  refine g_iload_n dJ6_bitCount_0f7a4_1 rfl rfl ?_
  refine g_none 0 ?_
  refine g_iconst (v := 1) dJ6_bitCount_0f7a4_2 (by decide) ?_
  refine g_iushr dJ6_bitCount_0f7a4_3 ?_
  refine g_ldcw (v := 1431655765) dJ6_bitCount_0f7a4_4 n_J6_265 ?_
  refine g_iand dJ6_bitCount_0f7a4_7 ?_
  refine g_isub dJ6_bitCount_0f7a4_8 ?_
  obtain ⟨v1, hv, hL⟩ := xB_some hL
  rw [Option.some.inj hv]
  refine g_istore_n (i := 0) dJ6_bitCount_0f7a4_9 rfl (by decide) rfl ?_
  refine g_iload_n dJ6_bitCount_0f7a4_10 rfl rfl ?_
  refine g_ldcw (v := 858993459) dJ6_bitCount_0f7a4_11 n_J6_266 ?_
  refine g_iand dJ6_bitCount_0f7a4_14 ?_
  refine g_iload_n dJ6_bitCount_0f7a4_15 rfl rfl ?_
  refine g_none 0 ?_
  refine g_iconst (v := 2) dJ6_bitCount_0f7a4_16 (by decide) ?_
  refine g_iushr dJ6_bitCount_0f7a4_17 ?_
  refine g_ldcw (v := 858993459) dJ6_bitCount_0f7a4_18 n_J6_266 ?_
  refine g_iand dJ6_bitCount_0f7a4_21 ?_
  refine g_iadd dJ6_bitCount_0f7a4_22 ?_
  obtain ⟨v2, hv, hL⟩ := xB_some hL
  rw [Option.some.inj hv]
  refine g_istore_n (i := 0) dJ6_bitCount_0f7a4_23 rfl (by decide) rfl ?_
  refine g_iload_n dJ6_bitCount_0f7a4_24 rfl rfl ?_
  refine g_iload_n dJ6_bitCount_0f7a4_25 rfl rfl ?_
  refine g_none 0 ?_
  refine g_iconst (v := 4) dJ6_bitCount_0f7a4_26 (by decide) ?_
  refine g_iushr dJ6_bitCount_0f7a4_27 ?_
  refine g_iadd dJ6_bitCount_0f7a4_28 ?_
  refine g_ldcw (v := 252645135) dJ6_bitCount_0f7a4_29 n_J6_267 ?_
  refine g_iand dJ6_bitCount_0f7a4_32 ?_
  obtain ⟨v3, hv, hL⟩ := xB_some hL
  rw [Option.some.inj hv]
  refine g_istore_n (i := 0) dJ6_bitCount_0f7a4_33 rfl (by decide) rfl ?_
  refine g_iload_n dJ6_bitCount_0f7a4_34 rfl rfl ?_
  refine g_iload_n dJ6_bitCount_0f7a4_35 rfl rfl ?_
  refine g_none 0 ?_
  refine g_bipush (v := 8) dJ6_bitCount_0f7a4_36 (by decide) ?_
  refine g_iushr dJ6_bitCount_0f7a4_38 ?_
  refine g_iadd dJ6_bitCount_0f7a4_39 ?_
  obtain ⟨v4, hv, hL⟩ := xB_some hL
  rw [Option.some.inj hv]
  refine g_istore_n (i := 0) dJ6_bitCount_0f7a4_40 rfl (by decide) rfl ?_
  refine g_iload_n dJ6_bitCount_0f7a4_41 rfl rfl ?_
  refine g_iload_n dJ6_bitCount_0f7a4_42 rfl rfl ?_
  refine g_none 0 ?_
  refine g_bipush (v := 16) dJ6_bitCount_0f7a4_43 (by decide) ?_
  refine g_iushr dJ6_bitCount_0f7a4_45 ?_
  refine g_iadd dJ6_bitCount_0f7a4_46 ?_
  obtain ⟨v5, hv, hL⟩ := xB_some hL
  rw [Option.some.inj hv]
  refine g_istore_n (i := 0) dJ6_bitCount_0f7a4_47 rfl (by decide) rfl ?_
  refine g_iload_n dJ6_bitCount_0f7a4_48 rfl rfl ?_
  refine g_none 0 ?_
  refine g_bipush (v := 63) dJ6_bitCount_0f7a4_49 (by decide) ?_
  refine g_iand dJ6_bitCount_0f7a4_51 ?_
  obtain rfl := Option.some.inj hL
  exact g_iret rfl dJ6_bitCount_0f7a4_52
def J_X9_fillLeastWays_106 (o : wO) (kh12 : Int32 → wS → Option (wS)) (ke119 : wS → Option (wS)) (x1 : Int32) (x3 : Int32) (w : wS) : Option (wS) :=
  xB (xAst w 50 256 (x1) (x3)) fun w1 => kh12 ((x1 + (-1))) w1
set_option maxRecDepth 20000 in
theorem J_X9_fillLeastWays_106_ok {G : aG} {Hf : wS → aH} {bx : Nat} {o : wO} {kh12 : Int32 → wS → Option (wS)} {ke119 : wS → Option (wS)} {x1 : Int32} {x3 : Int32} {w : wS} {r : wS} (hG : aGood G) (E : EX Hf bx o) (hL : J_X9_fillLeastWays_106 o kh12 ke119 x1 x3 w = some r) (Hkh12 : ∀ (z0 : Int32) (w : wS), kh12 z0 w = some r → AG G M_X9_fillLeastWays 12 [some (.ref (bx + 0)), some (.int (z0)), none, none, none] [] (Hf w) (.inl none, Hf r)) (Hke119 : ∀ (w : wS), ke119  w = some r → AG G M_X9_fillLeastWays 119 [none, none, none, none, none] [] (Hf w) (.inl none, Hf r)) : AG G M_X9_fillLeastWays 106 [some (.ref (bx + 0)), some (.int (x1)), none, some (.int (x3)), none] [] (Hf w) (.inl none, Hf r) := by
  unfold J_X9_fillLeastWays_106 at hL
  refine g_aload_n dX9_fillLeastWays_106 rfl rfl ?_
  refine s_getR (k := 0) (j := 6) E.1 rfl rfl f_X9_42 dX9_fillLeastWays_107 ?_
  refine g_iload_n dX9_fillLeastWays_110 rfl rfl ?_
  refine g_iload_n dX9_fillLeastWays_111 rfl rfl ?_
  refine g_none 3 ?_
  refine s_iast (k := 50) E.1 hL rfl dX9_fillLeastWays_112 ?_
  intro w1 hL
  refine g_iincV (v := (x1 + (-1))) dX9_fillLeastWays_113 rfl rfl (by decide) rfl ?_
  refine g_goto (tgt := 12) dX9_fillLeastWays_116 (by decide) ?_
  exact Hkh12 _ _ hL
def J_X9_fillLeastWays_100 (o : wO) (kh43 : Int32 → Int32 → Int32 → Int32 → wS → Option (wS)) (ke106 : Int32 → Int32 → wS → Option (wS)) (x1 : Int32) (x2 : Int32) (x3 : Int32) (x4 : Int32) (w : wS) : Option (wS) :=
  kh43 (x1) (x2) (x3) ((x4 + 1)) w
set_option maxRecDepth 20000 in
theorem J_X9_fillLeastWays_100_ok {G : aG} {Hf : wS → aH} {bx : Nat} {o : wO} {kh43 : Int32 → Int32 → Int32 → Int32 → wS → Option (wS)} {ke106 : Int32 → Int32 → wS → Option (wS)} {x1 : Int32} {x2 : Int32} {x3 : Int32} {x4 : Int32} {w : wS} {r : wS} (hG : aGood G) (E : EX Hf bx o) (hL : J_X9_fillLeastWays_100 o kh43 ke106 x1 x2 x3 x4 w = some r) (Hkh43 : ∀ (z0 : Int32) (z1 : Int32) (z2 : Int32) (z3 : Int32) (w : wS), kh43 z0 z1 z2 z3 w = some r → AG G M_X9_fillLeastWays 43 [some (.ref (bx + 0)), some (.int (z0)), some (.int (z1)), some (.int (z2)), some (.int (z3))] [] (Hf w) (.inl none, Hf r)) (Hke106 : ∀ (z0 : Int32) (z1 : Int32) (w : wS), ke106 z0 z1 w = some r → AG G M_X9_fillLeastWays 106 [some (.ref (bx + 0)), some (.int (z0)), none, some (.int (z1)), none] [] (Hf w) (.inl none, Hf r)) : AG G M_X9_fillLeastWays 100 [some (.ref (bx + 0)), some (.int (x1)), some (.int (x2)), some (.int (x3)), some (.int (x4))] [] (Hf w) (.inl none, Hf r) := by
  unfold J_X9_fillLeastWays_100 at hL
  refine g_iincV (v := (x4 + 1)) dX9_fillLeastWays_100 rfl rfl (by decide) rfl ?_
  refine g_goto (tgt := 43) dX9_fillLeastWays_103 (by decide) ?_
  exact Hkh43 _ _ _ _ _ hL
def B_X9_fillLeastWays_43 (o : wO) (kh43 : Int32 → Int32 → Int32 → Int32 → wS → Option (wS)) (ke106 : Int32 → Int32 → wS → Option (wS)) (x1 : Int32) (x2 : Int32) (x3 : Int32) (x4 : Int32) (w : wS) : Option (wS) :=
  xIf (xRef w 9 (oT o + 0)) (xB (xGet w 100006) fun v2 => if v2 ≤ x4 then ke106 (x1) (x3) w else xIf (xRef w 9 (oT o + 0)) (xB (xGet w 100007) fun v3 => if v3 ≤ x2 then ke106 (x1) (x3) w else xB2 (L_X9_mayHave o (x4) (x1) w) fun v4 w5 => if v4 = 0 then J_X9_fillLeastWays_100 o kh43 ke106 (x1) (x2) (x3) (x4) w5 else xB2 (L_X9_wayNow o (x4) (x2) w5) fun v6 w7 => xB (xAld w7 50 256 ((x1 ||| ((1 : Int32) <<< (x4 &&& 31))))) fun v8 => J_X9_fillLeastWays_100 o kh43 ke106 (x1) (x2) ((xMin (x3) ((v6 + v8)))) (x4) w7))
set_option maxRecDepth 20000 in
theorem B_X9_fillLeastWays_43_ok {G : aG} {Hf : wS → aH} {bx : Nat} {o : wO} {kh43 : Int32 → Int32 → Int32 → Int32 → wS → Option (wS)} {ke106 : Int32 → Int32 → wS → Option (wS)} {x1 : Int32} {x2 : Int32} {x3 : Int32} {x4 : Int32} {w : wS} {r : wS} (hG : aGood G) (E : EX Hf bx o) (hL : B_X9_fillLeastWays_43 o kh43 ke106 x1 x2 x3 x4 w = some r) (Hkh43 : ∀ (z0 : Int32) (z1 : Int32) (z2 : Int32) (z3 : Int32) (w : wS), kh43 z0 z1 z2 z3 w = some r → AG G M_X9_fillLeastWays 43 [some (.ref (bx + 0)), some (.int (z0)), some (.int (z1)), some (.int (z2)), some (.int (z3))] [] (Hf w) (.inl none, Hf r)) (Hke106 : ∀ (z0 : Int32) (z1 : Int32) (w : wS), ke106 z0 z1 w = some r → AG G M_X9_fillLeastWays 106 [some (.ref (bx + 0)), some (.int (z0)), none, some (.int (z1)), none] [] (Hf w) (.inl none, Hf r)) : AG G M_X9_fillLeastWays 43 [some (.ref (bx + 0)), some (.int (x1)), some (.int (x2)), some (.int (x3)), some (.int (x4))] [] (Hf w) (.inl none, Hf r) := by
  unfold B_X9_fillLeastWays_43 at hL
  refine g_iload dX9_fillLeastWays_43 rfl ?_
  refine g_aload_n dX9_fillLeastWays_45 rfl rfl ?_
  refine s_getT (k := 0) (j := 9) E.1 hL rfl rfl f_X9_55 dX9_fillLeastWays_46 ?_
  intro hL
  refine s_getI (k := 0) (j := 6) E.2.1 hL rfl rfl f_X9_99 dX9_fillLeastWays_49 ?_
  intro v2 hL
  refine g_icmp_ge (tgt := 106) dX9_fillLeastWays_52 (by decide) (fun q11 => ?_) (fun q11 => ?_)
  · rw [if_pos q11] at hL
    refine g_none 2 ?_
    refine g_none 4 ?_
    exact Hke106 _ _ _ hL
  · rw [if_neg q11] at hL
    refine g_iload_n dX9_fillLeastWays_55 rfl rfl ?_
    refine g_aload_n dX9_fillLeastWays_56 rfl rfl ?_
    refine s_getT (k := 0) (j := 9) E.1 hL rfl rfl f_X9_55 dX9_fillLeastWays_57 ?_
    intro hL
    refine s_getI (k := 0) (j := 7) E.2.1 hL rfl rfl f_X9_102 dX9_fillLeastWays_60 ?_
    intro v3 hL
    refine g_icmp_ge (tgt := 106) dX9_fillLeastWays_63 (by decide) (fun q10 => ?_) (fun q10 => ?_)
    · rw [if_pos q10] at hL
      refine g_none 2 ?_
      refine g_none 4 ?_
      exact Hke106 _ _ _ hL
    · rw [if_neg q10] at hL
      refine g_aload_n dX9_fillLeastWays_66 rfl rfl ?_
      refine g_iload dX9_fillLeastWays_67 rfl ?_
      refine g_iload_n dX9_fillLeastWays_69 rfl rfl ?_
      obtain ⟨v4, w5, hc, hL⟩ := xB2_some hL
      refine g_callV (M' := M_X9_mayHave) (as := [.int (x4), .int (x1)]) (v := some (.int (v4))) l_X9_379 kV_X9_mayHave (by decide) (C_X9_mayHave hG E hc) rfl (by have := E.1.1; omega) (E.1.2.1 _ 0 _ rfl) ⟨_, _, rfl⟩ (Nat.le_of_ble_eq_true rfl) dX9_fillLeastWays_70 ?_
      refine g_if_eq (tgt := 100) dX9_fillLeastWays_73 (by decide) (fun q9 => ?_) (fun q9 => ?_)
      · rw [if_pos q9] at hL
        exact J_X9_fillLeastWays_100_ok hG E hL Hkh43 Hke106
      · rw [if_neg q9] at hL
        refine g_iload_n dX9_fillLeastWays_76 rfl rfl ?_
        refine g_none 3 ?_
        refine g_aload_n dX9_fillLeastWays_77 rfl rfl ?_
        refine g_iload dX9_fillLeastWays_78 rfl ?_
        refine g_iload_n dX9_fillLeastWays_80 rfl rfl ?_
        obtain ⟨v6, w7, hc, hL⟩ := xB2_some hL
        refine g_callV (M' := M_X9_wayNow) (as := [.int (x4), .int (x2)]) (v := some (.int (v6))) l_X9_346 kV_X9_wayNow (by decide) (C_X9_wayNow hG E hc) rfl (by have := E.1.1; omega) (E.1.2.1 _ 0 _ rfl) ⟨_, _, rfl⟩ (Nat.le_of_ble_eq_true rfl) dX9_fillLeastWays_81 ?_
        refine g_aload_n dX9_fillLeastWays_84 rfl rfl ?_
        refine s_getR (k := 0) (j := 6) E.1 rfl rfl f_X9_42 dX9_fillLeastWays_85 ?_
        refine g_iload_n dX9_fillLeastWays_88 rfl rfl ?_
        refine g_iconst (v := 1) dX9_fillLeastWays_89 (by decide) ?_
        refine g_iload dX9_fillLeastWays_90 rfl ?_
        refine g_ishl dX9_fillLeastWays_92 ?_
        refine g_ior dX9_fillLeastWays_93 ?_
        refine s_iald (k := 50) E.1 hL rfl dX9_fillLeastWays_94 ?_
        intro v8 hL
        refine g_iadd dX9_fillLeastWays_95 ?_
        refine g_mmin (aIn1 523 (by decide +kernel) rfl) mmin_1 mmin_2 mmin_3 (by decide) (Nat.le_of_ble_eq_true rfl) dX9_fillLeastWays_96 ?_
        refine g_istore_n (i := 3) dX9_fillLeastWays_99 rfl (by decide) rfl ?_
        exact J_X9_fillLeastWays_100_ok hG E hL Hkh43 Hke106
def P_X9_fillLeastWays_43 (o : wO) (ke106 : Int32 → Int32 → wS → Option (wS)) (n : Nat) (x1 : Int32) (x2 : Int32) (x3 : Int32) (x4 : Int32) (w : wS) : Option (wS) :=
  xLoop (fun (kk : Int32 × Int32 × Int32 × Int32 × wS → Option (wS)) σ => B_X9_fillLeastWays_43 o (fun x1 x2 x3 x4 w => kk (x1, x2, x3, x4, w)) ke106 (σ.1) (σ.2.1) (σ.2.2.1) (σ.2.2.2.1) (σ.2.2.2.2)) n (x1, x2, x3, x4, w)
theorem P_X9_fillLeastWays_43_ok {G : aG} {Hf : wS → aH} {bx : Nat} {o : wO} {ke106 : Int32 → Int32 → wS → Option (wS)} {n : Nat} {x1 : Int32} {x2 : Int32} {x3 : Int32} {x4 : Int32} {w : wS} {r : wS} (hG : aGood G) (E : EX Hf bx o) (hL : P_X9_fillLeastWays_43 o ke106 n x1 x2 x3 x4 w = some r) (Hke106 : ∀ (z0 : Int32) (z1 : Int32) (w : wS), ke106 z0 z1 w = some r → AG G M_X9_fillLeastWays 106 [some (.ref (bx + 0)), some (.int (z0)), none, some (.int (z1)), none] [] (Hf w) (.inl none, Hf r)) : AG G M_X9_fillLeastWays 43 [some (.ref (bx + 0)), some (.int (x1)), some (.int (x2)), some (.int (x3)), some (.int (x4))] [] (Hf w) (.inl none, Hf r) :=
  xLoop_ok (Q := fun (σ : Int32 × Int32 × Int32 × Int32 × wS) => AG G M_X9_fillLeastWays 43 [some (.ref (bx + 0)), some (.int (σ.1)), some (.int (σ.2.1)), some (.int (σ.2.2.1)), some (.int (σ.2.2.2.1))] [] (Hf σ.2.2.2.2) (.inl none, Hf r)) (fun kk hk σ hσ => B_X9_fillLeastWays_43_ok hG E hσ (fun x1 x2 x3 x4 w h9 => hk (x1, x2, x3, x4, w) h9) Hke106) n (x1, x2, x3, x4, w) hL
def J_X9_fillLeastWays_39 (o : wO) (kh12 : Int32 → wS → Option (wS)) (ke119 : wS → Option (wS)) (x1 : Int32) (x2 : Int32) (y0 : Int32) (w : wS) : Option (wS) :=
  P_X9_fillLeastWays_43 o (fun z12 z13 w14 => J_X9_fillLeastWays_106 o kh12 ke119 (z12) (z13) w14) 5000 (x1) (x2) (y0) (0) w
set_option maxRecDepth 20000 in
theorem J_X9_fillLeastWays_39_ok {G : aG} {Hf : wS → aH} {bx : Nat} {o : wO} {kh12 : Int32 → wS → Option (wS)} {ke119 : wS → Option (wS)} {x1 : Int32} {x2 : Int32} {y0 : Int32} {w : wS} {r : wS} (hG : aGood G) (E : EX Hf bx o) (hL : J_X9_fillLeastWays_39 o kh12 ke119 x1 x2 y0 w = some r) (Hkh12 : ∀ (z0 : Int32) (w : wS), kh12 z0 w = some r → AG G M_X9_fillLeastWays 12 [some (.ref (bx + 0)), some (.int (z0)), none, none, none] [] (Hf w) (.inl none, Hf r)) (Hke119 : ∀ (w : wS), ke119  w = some r → AG G M_X9_fillLeastWays 119 [none, none, none, none, none] [] (Hf w) (.inl none, Hf r)) : AG G M_X9_fillLeastWays 39 [some (.ref (bx + 0)), some (.int (x1)), some (.int (x2)), none, none] [.int (y0)] (Hf w) (.inl none, Hf r) := by
  unfold J_X9_fillLeastWays_39 at hL
  refine g_istore_n (i := 3) dX9_fillLeastWays_39 rfl (by decide) rfl ?_
  refine g_iconst (v := 0) dX9_fillLeastWays_40 (by decide) ?_
  refine g_istore (i := 4) dX9_fillLeastWays_41 (by decide) rfl ?_
  refine P_X9_fillLeastWays_43_ok hG E hL ?_
  · intro z12 z13 w14 hL
    exact J_X9_fillLeastWays_106_ok hG E hL Hkh12 Hke119
def B_X9_fillLeastWays_12 (o : wO) (kh12 : Int32 → wS → Option (wS)) (ke119 : wS → Option (wS)) (x1 : Int32) (w : wS) : Option (wS) :=
  if x1 < 0 then ke119  w else xB (L_J6_bitCount_0f7a4 (x1)) fun v15 => xIf (xRef w 9 (oT o + 0)) (xB (xGet w 100007) fun v16 => if v15 < v16 then J_X9_fillLeastWays_39 o kh12 ke119 (x1) (v15) (1000000) w else J_X9_fillLeastWays_39 o kh12 ke119 (x1) (v15) (0) w)
set_option maxRecDepth 20000 in
theorem B_X9_fillLeastWays_12_ok {G : aG} {Hf : wS → aH} {bx : Nat} {o : wO} {kh12 : Int32 → wS → Option (wS)} {ke119 : wS → Option (wS)} {x1 : Int32} {w : wS} {r : wS} (hG : aGood G) (E : EX Hf bx o) (hL : B_X9_fillLeastWays_12 o kh12 ke119 x1 w = some r) (Hkh12 : ∀ (z0 : Int32) (w : wS), kh12 z0 w = some r → AG G M_X9_fillLeastWays 12 [some (.ref (bx + 0)), some (.int (z0)), none, none, none] [] (Hf w) (.inl none, Hf r)) (Hke119 : ∀ (w : wS), ke119  w = some r → AG G M_X9_fillLeastWays 119 [none, none, none, none, none] [] (Hf w) (.inl none, Hf r)) : AG G M_X9_fillLeastWays 12 [some (.ref (bx + 0)), some (.int (x1)), none, none, none] [] (Hf w) (.inl none, Hf r) := by
  unfold B_X9_fillLeastWays_12 at hL
  refine g_iload_n dX9_fillLeastWays_12 rfl rfl ?_
  refine g_if_lt (tgt := 119) dX9_fillLeastWays_13 (by decide) (fun q18 => ?_) (fun q18 => ?_)
  · rw [if_pos q18] at hL
    refine g_none 0 ?_
    refine g_none 1 ?_
    exact Hke119  _ hL
  · rw [if_neg q18] at hL
    refine g_iload_n dX9_fillLeastWays_16 rfl rfl ?_
    obtain ⟨v15, hc, hL⟩ := xB_some hL
    refine g_callS (M' := M_J6_bitCount_0f7a4) (as := [.int (x1)]) (v := some (.int (v15))) l_X9_283 kS_J6_bitCount_0f7a4 (by decide) (C_J6_bitCount_0f7a4 hc) rfl (Nat.le_of_ble_eq_true rfl) dX9_fillLeastWays_17 ?_
    refine g_istore_n (i := 2) dX9_fillLeastWays_20 rfl (by decide) rfl ?_
    refine g_iload_n dX9_fillLeastWays_21 rfl rfl ?_
    refine g_aload_n dX9_fillLeastWays_22 rfl rfl ?_
    refine s_getT (k := 0) (j := 9) E.1 hL rfl rfl f_X9_55 dX9_fillLeastWays_23 ?_
    intro hL
    refine s_getI (k := 0) (j := 7) E.2.1 hL rfl rfl f_X9_102 dX9_fillLeastWays_26 ?_
    intro v16 hL
    refine g_icmp_lt (tgt := 36) dX9_fillLeastWays_29 (by decide) (fun q17 => ?_) (fun q17 => ?_)
    · rw [if_pos q17] at hL
      refine g_ldcw (v := 1000000) dX9_fillLeastWays_36 n_X9_276 ?_
      exact J_X9_fillLeastWays_39_ok hG E hL Hkh12 Hke119
    · rw [if_neg q17] at hL
      refine g_iconst (v := 0) dX9_fillLeastWays_32 (by decide) ?_
      refine g_goto (tgt := 39) dX9_fillLeastWays_33 (by decide) ?_
      exact J_X9_fillLeastWays_39_ok hG E hL Hkh12 Hke119
def P_X9_fillLeastWays_12 (o : wO) (ke119 : wS → Option (wS)) (n : Nat) (x1 : Int32) (w : wS) : Option (wS) :=
  xLoop (fun (kk : Int32 × wS → Option (wS)) σ => B_X9_fillLeastWays_12 o (fun x1 w => kk (x1, w)) ke119 (σ.1) (σ.2)) n (x1, w)
theorem P_X9_fillLeastWays_12_ok {G : aG} {Hf : wS → aH} {bx : Nat} {o : wO} {ke119 : wS → Option (wS)} {n : Nat} {x1 : Int32} {w : wS} {r : wS} (hG : aGood G) (E : EX Hf bx o) (hL : P_X9_fillLeastWays_12 o ke119 n x1 w = some r) (Hke119 : ∀ (w : wS), ke119  w = some r → AG G M_X9_fillLeastWays 119 [none, none, none, none, none] [] (Hf w) (.inl none, Hf r)) : AG G M_X9_fillLeastWays 12 [some (.ref (bx + 0)), some (.int (x1)), none, none, none] [] (Hf w) (.inl none, Hf r) :=
  xLoop_ok (Q := fun (σ : Int32 × wS) => AG G M_X9_fillLeastWays 12 [some (.ref (bx + 0)), some (.int (σ.1)), none, none, none] [] (Hf σ.2) (.inl none, Hf r)) (fun kk hk σ hσ => B_X9_fillLeastWays_12_ok hG E hσ (fun x1 w h9 => hk (x1, w) h9) Hke119) n (x1, w) hL
def L_X9_fillLeastWays (o : wO) (w : wS) : Option (wS) :=
  xIf (xRef w 9 (oT o + 0)) (xB (xGet w 100006) fun v19 => P_X9_fillLeastWays_12 o (fun w20 => some w20) 5000 ((((1 : Int32) <<< (v19 &&& 31)) - (1 : Int32))) w)
set_option maxRecDepth 20000 in
theorem C_X9_fillLeastWays {G : aG} {Hf : wS → aH} {bx : Nat} {o : wO} {w : wS} {r : wS} (hG : aGood G) (E : EX Hf bx o) (hL : L_X9_fillLeastWays o  w = some r) : AC G M_X9_fillLeastWays [.ref (bx + 0)] (Hf w) (.inl none, Hf r) := by
  unfold L_X9_fillLeastWays at hL
  refine AC.of (by decide) rfl (Nat.le_of_ble_eq_true rfl) ?_
  show AG G M_X9_fillLeastWays 0 [some (.ref (bx + 0)), none, none, none, none] [] _ _
  refine g_iconst (v := 1) dX9_fillLeastWays_0 (by decide) ?_
  refine g_aload_n dX9_fillLeastWays_1 rfl rfl ?_
  refine s_getT (k := 0) (j := 9) E.1 hL rfl rfl f_X9_55 dX9_fillLeastWays_2 ?_
  intro hL
  refine s_getI (k := 0) (j := 6) E.2.1 hL rfl rfl f_X9_99 dX9_fillLeastWays_5 ?_
  intro v19 hL
  refine g_ishl dX9_fillLeastWays_8 ?_
  refine g_iconst (v := 1) dX9_fillLeastWays_9 (by decide) ?_
  refine g_isub dX9_fillLeastWays_10 ?_
  refine g_istore_n (i := 1) dX9_fillLeastWays_11 rfl (by decide) rfl ?_
  refine P_X9_fillLeastWays_12_ok hG E hL ?_
  · intro w20 hL
    obtain rfl := Option.some.inj hL
    exact g_vret rfl dX9_fillLeastWays_119
def B_X9_rota_48 (o : wO) (kh48 : Int32 → Int32 → Int32 → Int32 → wS → Option ((Int32 ⊕ String) × wS)) (ke67 : wS → Option ((Int32 ⊕ String) × wS)) (ke82 : Int32 → wS → Option ((Int32 ⊕ String) × wS)) (x1 : Int32) (x2 : Int32) (x3 : Int32) (x4 : Int32) (w : wS) : Option ((Int32 ⊕ String) × wS) :=
  if x1 < x4 then ke82 (x3) w else xB2 (L_X9_firstOfRota o (x4) (x2) w) fun v1 w2 => if v1 = (-1) then ke67  w2 else kh48 (x1) ((x2 ||| ((1 : Int32) <<< (v1 &&& 31)))) (v1) ((x4 + 1)) w2
set_option maxRecDepth 20000 in
theorem B_X9_rota_48_ok {G : aG} {Hf : wS → aH} {bx : Nat} {o : wO} {kh48 : Int32 → Int32 → Int32 → Int32 → wS → Option ((Int32 ⊕ String) × wS)} {ke67 : wS → Option ((Int32 ⊕ String) × wS)} {ke82 : Int32 → wS → Option ((Int32 ⊕ String) × wS)} {x1 : Int32} {x2 : Int32} {x3 : Int32} {x4 : Int32} {w : wS} {r : (Int32 ⊕ String) × wS} (hG : aGood G) (E : EX Hf bx o) (hL : B_X9_rota_48 o kh48 ke67 ke82 x1 x2 x3 x4 w = some r) (Hkh48 : ∀ (z0 : Int32) (z1 : Int32) (z2 : Int32) (z3 : Int32) (w : wS), kh48 z0 z1 z2 z3 w = some r → AG G M_X9_rota 48 [some (.ref (bx + 0)), some (.int (z0)), some (.int (z1)), some (.int (z2)), some (.int (z3))] [] (Hf w) (xRv Hf r)) (Hke67 : ∀ (w : wS), ke67  w = some r → AG G M_X9_rota 67 [none, none, none, none, none] [] (Hf w) (xRv Hf r)) (Hke82 : ∀ (z0 : Int32) (w : wS), ke82 z0 w = some r → AG G M_X9_rota 82 [none, none, none, some (.int (z0)), none] [] (Hf w) (xRv Hf r)) : AG G M_X9_rota 48 [some (.ref (bx + 0)), some (.int (x1)), some (.int (x2)), some (.int (x3)), some (.int (x4))] [] (Hf w) (xRv Hf r) := by
  unfold B_X9_rota_48 at hL
  refine g_iload dX9_rota_48 rfl ?_
  refine g_iload_n dX9_rota_50 rfl rfl ?_
  refine g_icmp_gt (tgt := 82) dX9_rota_51 (by decide) (fun q4 => ?_) (fun q4 => ?_)
  · rw [if_pos q4] at hL
    refine g_none 0 ?_
    refine g_none 1 ?_
    refine g_none 2 ?_
    refine g_none 4 ?_
    exact Hke82 _ _ hL
  · rw [if_neg q4] at hL
    refine g_none 3 ?_
    refine g_aload_n dX9_rota_54 rfl rfl ?_
    refine g_iload dX9_rota_55 rfl ?_
    refine g_iload_n dX9_rota_57 rfl rfl ?_
    obtain ⟨v1, w2, hc, hL⟩ := xB2_some hL
    refine g_callV (M' := M_X9_firstOfRota) (as := [.int (x4), .int (x2)]) (v := some (.int (v1))) l_X9_277 kV_X9_firstOfRota (by decide) (C_X9_firstOfRota hG E hc) rfl (by have := E.1.1; omega) (E.1.2.1 _ 0 _ rfl) ⟨_, _, rfl⟩ (Nat.le_of_ble_eq_true rfl) dX9_rota_58 ?_
    refine g_istore_n (i := 3) dX9_rota_61 rfl (by decide) rfl ?_
    refine g_iload_n dX9_rota_62 rfl rfl ?_
    refine g_iconst (v := (-1)) dX9_rota_63 (by decide) ?_
    refine g_icmp_ne (tgt := 70) dX9_rota_64 (by decide) (fun q3 => ?_) (fun q3 => ?_)
    · rw [if_neg q3] at hL
      refine g_iload_n dX9_rota_70 rfl rfl ?_
      refine g_none 2 ?_
      refine g_iconst (v := 1) dX9_rota_71 (by decide) ?_
      refine g_iload_n dX9_rota_72 rfl rfl ?_
      refine g_ishl dX9_rota_73 ?_
      refine g_ior dX9_rota_74 ?_
      refine g_istore_n (i := 2) dX9_rota_75 rfl (by decide) rfl ?_
      refine g_iincV (v := (x4 + 1)) dX9_rota_76 rfl rfl (by decide) rfl ?_
      refine g_goto (tgt := 48) dX9_rota_79 (by decide) ?_
      exact Hkh48 _ _ _ _ _ hL
    · rw [if_pos q3] at hL
      refine g_none 0 ?_
      refine g_none 1 ?_
      refine g_none 2 ?_
      refine g_none 3 ?_
      refine g_none 4 ?_
      exact Hke67  _ hL
def P_X9_rota_48 (o : wO) (ke67 : wS → Option ((Int32 ⊕ String) × wS)) (ke82 : Int32 → wS → Option ((Int32 ⊕ String) × wS)) (n : Nat) (x1 : Int32) (x2 : Int32) (x3 : Int32) (x4 : Int32) (w : wS) : Option ((Int32 ⊕ String) × wS) :=
  xLoop (fun (kk : Int32 × Int32 × Int32 × Int32 × wS → Option ((Int32 ⊕ String) × wS)) σ => B_X9_rota_48 o (fun x1 x2 x3 x4 w => kk (x1, x2, x3, x4, w)) ke67 ke82 (σ.1) (σ.2.1) (σ.2.2.1) (σ.2.2.2.1) (σ.2.2.2.2)) n (x1, x2, x3, x4, w)
theorem P_X9_rota_48_ok {G : aG} {Hf : wS → aH} {bx : Nat} {o : wO} {ke67 : wS → Option ((Int32 ⊕ String) × wS)} {ke82 : Int32 → wS → Option ((Int32 ⊕ String) × wS)} {n : Nat} {x1 : Int32} {x2 : Int32} {x3 : Int32} {x4 : Int32} {w : wS} {r : (Int32 ⊕ String) × wS} (hG : aGood G) (E : EX Hf bx o) (hL : P_X9_rota_48 o ke67 ke82 n x1 x2 x3 x4 w = some r) (Hke67 : ∀ (w : wS), ke67  w = some r → AG G M_X9_rota 67 [none, none, none, none, none] [] (Hf w) (xRv Hf r)) (Hke82 : ∀ (z0 : Int32) (w : wS), ke82 z0 w = some r → AG G M_X9_rota 82 [none, none, none, some (.int (z0)), none] [] (Hf w) (xRv Hf r)) : AG G M_X9_rota 48 [some (.ref (bx + 0)), some (.int (x1)), some (.int (x2)), some (.int (x3)), some (.int (x4))] [] (Hf w) (xRv Hf r) :=
  xLoop_ok (Q := fun (σ : Int32 × Int32 × Int32 × Int32 × wS) => AG G M_X9_rota 48 [some (.ref (bx + 0)), some (.int (σ.1)), some (.int (σ.2.1)), some (.int (σ.2.2.1)), some (.int (σ.2.2.2.1))] [] (Hf σ.2.2.2.2) (xRv Hf r)) (fun kk hk σ hσ => B_X9_rota_48_ok hG E hσ (fun x1 x2 x3 x4 w h9 => hk (x1, x2, x3, x4, w) h9) Hke67 Hke82) n (x1, x2, x3, x4, w) hL
def J_X9_rota_10 (o : wO) (x1 : Int32) (w : wS) : Option ((Int32 ⊕ String) × wS) :=
  xB (L_X9_fillLeastWays o  w) fun w5 => xB (xAld w5 50 256 (0)) fun v6 => if v6 < 1000000 then if x1 = (-1) then xB (xAld w5 50 256 (0)) fun v10 => some (.inl (v10), w5) else P_X9_rota_48 o (fun w7 => some (.inl ((-2)), w7)) (fun z8 w9 => some (.inl (z8), w9)) 5000 (x1) (0) ((-1)) (0) w5 else some (.inl ((-2)), w5)
set_option maxRecDepth 20000 in
theorem J_X9_rota_10_ok {G : aG} {Hf : wS → aH} {bx : Nat} {o : wO} {x1 : Int32} {w : wS} {r : (Int32 ⊕ String) × wS} (hG : aGood G) (E : EX Hf bx o) (hL : J_X9_rota_10 o  x1 w = some r) : AG G M_X9_rota 10 [some (.ref (bx + 0)), some (.int (x1)), none, none, none] [] (Hf w) (xRv Hf r) := by
  unfold J_X9_rota_10 at hL
  refine g_aload_n dX9_rota_10 rfl rfl ?_
  obtain ⟨w5, hc, hL⟩ := xB_some hL
  refine g_callV (M' := M_X9_fillLeastWays) (as := []) (v := none) l_X9_273 kV_X9_fillLeastWays (by decide) (C_X9_fillLeastWays hG E hc) rfl (by have := E.1.1; omega) (E.1.2.1 _ 0 _ rfl) ⟨_, _, rfl⟩ (Nat.le_of_ble_eq_true rfl) dX9_rota_11 ?_
  refine g_aload_n dX9_rota_14 rfl rfl ?_
  refine s_getR (k := 0) (j := 6) E.1 rfl rfl f_X9_42 dX9_rota_15 ?_
  refine g_iconst (v := 0) dX9_rota_18 (by decide) ?_
  refine s_iald (k := 50) E.1 hL rfl dX9_rota_19 ?_
  intro v6 hL
  refine g_ldcw (v := 1000000) dX9_rota_20 n_X9_276 ?_
  refine g_icmp_lt (tgt := 29) dX9_rota_23 (by decide) (fun q12 => ?_) (fun q12 => ?_)
  · rw [if_pos q12] at hL
    refine g_iload_n dX9_rota_29 rfl rfl ?_
    refine g_iconst (v := (-1)) dX9_rota_30 (by decide) ?_
    refine g_icmp_ne (tgt := 41) dX9_rota_31 (by decide) (fun q11 => ?_) (fun q11 => ?_)
    · rw [if_neg q11] at hL
      refine g_iconst (v := 0) dX9_rota_41 (by decide) ?_
      refine g_istore_n (i := 2) dX9_rota_42 rfl (by decide) rfl ?_
      refine g_iconst (v := (-1)) dX9_rota_43 (by decide) ?_
      refine g_istore_n (i := 3) dX9_rota_44 rfl (by decide) rfl ?_
      refine g_iconst (v := 0) dX9_rota_45 (by decide) ?_
      refine g_istore (i := 4) dX9_rota_46 (by decide) rfl ?_
      refine P_X9_rota_48_ok hG E hL ?_ ?_
      · intro w7 hL
        refine g_bipush (v := (-2)) dX9_rota_67 (by decide) ?_
        obtain rfl := Option.some.inj hL
        exact g_iret rfl dX9_rota_69
      · intro z8 w9 hL
        refine g_iload_n dX9_rota_82 rfl rfl ?_
        refine g_none 3 ?_
        obtain rfl := Option.some.inj hL
        exact g_iret rfl dX9_rota_83
    · rw [if_pos q11] at hL
      refine g_none 1 ?_
      refine g_aload_n dX9_rota_34 rfl rfl ?_
      refine g_none 0 ?_
      refine s_getR (k := 0) (j := 6) E.1 rfl rfl f_X9_42 dX9_rota_35 ?_
      refine g_iconst (v := 0) dX9_rota_38 (by decide) ?_
      refine s_iald (k := 50) E.1 hL rfl dX9_rota_39 ?_
      intro v10 hL
      obtain rfl := Option.some.inj hL
      exact g_iret rfl dX9_rota_40
  · rw [if_neg q12] at hL
    refine g_none 0 ?_
    refine g_none 1 ?_
    refine g_bipush (v := (-2)) dX9_rota_26 (by decide) ?_
    obtain rfl := Option.some.inj hL
    exact g_iret rfl dX9_rota_28
def L_X9_rota (o : wO) (a1 : Int32) (w : wS) : Option ((Int32 ⊕ String) × wS) :=
  if a1 = (-1) then J_X9_rota_10 o  (a1) w else xBT (L_X9_needDuty o (a1) w) (fun E9 => some (.inr E9, w)) (J_X9_rota_10 o  (a1) w)
set_option maxRecDepth 20000 in
theorem C_X9_rota {G : aG} {Hf : wS → aH} {bx : Nat} {o : wO} {a1 : Int32} {w : wS} {r : (Int32 ⊕ String) × wS} (hG : aGood G) (E : EX Hf bx o) (hL : L_X9_rota o a1 w = some r) : AC G M_X9_rota [.ref (bx + 0), .int a1] (Hf w) (xRv Hf r) := by
  unfold L_X9_rota at hL
  refine AC.of (by decide) rfl (Nat.le_of_ble_eq_true rfl) ?_
  show AG G M_X9_rota 0 [some (.ref (bx + 0)), some (.int (a1)), none, none, none] [] _ _
  refine g_iload_n dX9_rota_0 rfl rfl ?_
  refine g_iconst (v := (-1)) dX9_rota_1 (by decide) ?_
  refine g_icmp_eq (tgt := 10) dX9_rota_2 (by decide) (fun q13 => ?_) (fun q13 => ?_)
  · rw [if_pos q13] at hL
    exact J_X9_rota_10_ok hG E hL 
  · rw [if_neg q13] at hL
    refine g_aload_n dX9_rota_5 rfl rfl ?_
    refine g_iload_n dX9_rota_6 rfl rfl ?_
    rcases xBT_some hL with ⟨hc, hL⟩ | ⟨E9, hc, hL⟩
    · refine g_callV (M' := M_X9_needDuty) (as := [.int (a1)]) (v := none) l_X9_175 kV_X9_needDuty (by decide) (C_X9_needDuty hG E hc) rfl (by have := E.1.1; omega) (E.1.2.1 _ 0 _ rfl) ⟨_, _, rfl⟩ (Nat.le_of_ble_eq_true rfl) dX9_rota_7 ?_
      exact J_X9_rota_10_ok hG E hL 
    · obtain rfl := Option.some.inj hL
      exact g_callVX (M' := M_X9_needDuty) (as := [.int (a1)]) (E := E9) (aIn1 972 (by decide +kernel) rfl) kV_X9_needDuty (by decide) rfl (C_X9_needDuty hG E hc) rfl (by have := E.1.1; omega) (E.1.2.1 _ 0 _ rfl) ⟨_, _, rfl⟩ (Nat.le_of_ble_eq_true rfl) dX9_rota_7
