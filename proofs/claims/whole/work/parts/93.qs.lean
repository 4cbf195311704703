section
/-! ===== what is seen ===== -/
abbrev Sn : Type := Nat × (Nat → Nat) × (Nat → Nat) × (Nat → Nat)
def sOk (t : Tn) (s : Sn) : Prop := s.1 ≤ 8 ∧ ∀ i, i < s.1 → s.2.1 i < tD t ∧ 1 ≤ s.2.2.1 i ∧ s.2.2.1 i ≤ 12 ∧ s.2.2.2 i ≤ 1999
def SX (s : Sn) (w : wS) : Prop := w.1 1703 = nI s.1 ∧ ∀ i, i < s.1 → w.2.1 18 i = nI (s.2.1 i) ∧ w.2.1 19 i = nI (s.2.2.1 i) ∧ w.2.1 20 i = nI (s.2.2.2 i)
def SM (s : Sn) (w : wS) : Prop := w.1 58 = nI s.1 ∧ ∀ i, i < s.1 → w.2.1 25 (3 * i) = nI (s.2.1 i) ∧ w.2.1 25 (3 * i + 1) = nI (s.2.2.1 i) ∧ w.2.1 25 (3 * i + 2) = nI (s.2.2.2 i)
theorem SX.of {s : Sn} {w w' : wS} (h : SX s w) (h1 : w'.1 1703 = w.1 1703) (h2 : ∀ c, c ∈ [18, 19, 20] → w'.2.1 c = w.2.1 c) : SX s w' := by
  unfold SX
  rw [h1, h2 18 (by decide), h2 19 (by decide), h2 20 (by decide)]
  exact h
theorem SX.q {s : Sn} {w w' : wS} (h : SX s w) (q : QX w w') : SX s w' := h.of (q.1 1703 (by decide)) (fun c hc => q.2.1 c (by simp at hc ⊢; omega))
theorem SX.fr {s : Sn} {w w' : wS} (h : SX s w) (q : Fr xKs xAs w w') : SX s w' := h.q (QX.fr2 q)
theorem SM.of {s : Sn} {w w' : wS} (h : SM s w) (h1 : w'.1 58 = w.1 58) (h2 : w'.2.1 25 = w.2.1 25) : SM s w' := by
  unfold SM
  rw [h1, h2]
  exact h
theorem SM.q {s : Sn} {w w' : wS} (h : SM s w) (q : QM w w') : SM s w' := h.of (q.1.1 58 (by decide)) (q.1.2.1 25 (by decide))
/-- what is seen of a day is so (yk: ahead of it) -/
def agI (t : Tn) (y : Yw) (s : Sn) (yk : Yw) (k : Nat) : Nat → Bool
  | 0 => true
  | i + 1 => agI t y s yk k i && (decide (s.2.2.1 i ≠ k) || decide (yE y (s.2.1 i) + behS t (exC 0) yk (s.2.1 i) = s.2.2.2 i))
def okD (t : Tn) (y : Yw) (s : Sn) : Nat → Bool
  | 0 => true
  | k + 1 => okD t y s k && agI t y s (daysY t (exC 0) y k) (k + 1) s.1
theorem agI_s {t : Tn} {y yk : Yw} {s : Sn} {k i : Nat} : agI t y s yk k (i + 1) = (agI t y s yk k i && (decide (s.2.2.1 i ≠ k) || decide (yE y (s.2.1 i) + behS t (exC 0) yk (s.2.1 i) = s.2.2.2 i))) := rfl
theorem agI_f {t : Tn} {y yk : Yw} {s : Sn} {k i : Nat} (h : agI t y s yk k i = false) : ∀ n, agI t y s yk k (i + n) = false
  | 0 => h
  | n + 1 => by
    show (agI t y s yk k (i + n) && _) = false
    rw [agI_f h n]; rfl
theorem agI_t {t : Tn} {y yk : Yw} {s : Sn} {k : Nat} : ∀ {n : Nat}, (∀ i, i < n → s.2.2.1 i ≠ k) → agI t y s yk k n = true
  | 0, _ => rfl
  | n + 1, h => by
    rw [agI_s, agI_t (n := n) (fun i hi => h i (by omega)), decide_eq_true (h n (by omega))]; rfl
theorem okD_f {t : Tn} {y : Yw} {s : Sn} {k : Nat} (h : okD t y s k = false) : ∀ n, okD t y s (k + n) = false
  | 0 => h
  | n + 1 => by
    show (okD t y s (k + n) && _) = false
    rw [okD_f h n]; rfl
def ltD (s : Sn) : Nat → Nat
  | 0 => 0
  | i + 1 => max (ltD s i) (s.2.2.1 i)
theorem ltD_le {s : Sn} {N : Nat} : ∀ {n : Nat}, (∀ i, i < n → s.2.2.1 i ≤ N) → ltD s n ≤ N
  | 0, _ => Nat.zero_le _
  | n + 1, h => by
    have := ltD_le (s := s) (n := n) (fun i hi => h i (by omega))
    have := h n (by omega)
    show max _ _ ≤ N
    omega
theorem ltD_ge {s : Sn} : ∀ {n : Nat} (i : Nat), i < n → s.2.2.1 i ≤ ltD s n
  | 0, i, h => absurd h (Nat.not_lt_zero i)
  | n + 1, i, h => by
    show _ ≤ max _ _
    by_cases e : i = n
    · rw [e]; omega
    · have := ltD_ge (s := s) (n := n) i (by omega)
      omega
theorem okD_l {t : Tn} {y : Yw} {s : Sn} : ∀ n, okD t y s (ltD s s.1 + n) = okD t y s (ltD s s.1)
  | 0 => rfl
  | n + 1 => by
    show (okD t y s (ltD s s.1 + n) && agI t y s (daysY t (exC 0) y (ltD s s.1 + n)) (ltD s s.1 + n + 1) s.1) = _
    rw [agI_t (fun i hi => by have := ltD_ge (s := s) i hi; omega), Bool.and_true, okD_l n]
theorem behS_le (t : Tn) (ex : Ex) (y : Yw) (d : Nat) : behS t ex y d ≤ 120 := beh_le _ _ _
theorem x_agrees {t : Tn} {y yk : Yw} {s : Sn} {o : wO} {w : wS} {k : Nat} (ho : tOk t) (hy : yOk t y) (hs : sOk t s) (hS : SX s w) (h38 : ∀ d, d < tD t → w.2.1 38 d = nI (behS t (exC 0) yk d)) (hE : ∀ d, d < 6 → w.2.1 32 (25 + d) = nI (yE y d)) (hk : k ≤ 12) : L_X4_agrees_x17_x30 o (nI k) w = some (nI (agI t y s yk k s.1).toNat, w) := by
  have b2 := ho.2.1
  have hn := hs.1
  suffices h : wpO (L_X4_agrees_x17_x30 o (nI k) w) (fun r => r = (nI (agI t y s yk k s.1).toNat, w)) by
    obtain ⟨a, e, rfl⟩ := h; exact e
  unfold L_X4_agrees_x17_x30 P_X4_agrees_x17_x30_2
  simp (disch := omega) only [xB_s, xB2_s, xGet_s, xPut_s, xAld_s, xAst_s, xIf_t, xBool_s, l0, l1, l2, l3, l4, l5, l6, l7, l8, l9, l10, l11, l12, l13, l15, l16, l17, l19, l20, l25, l27, l30, l31, l32, l33, l39, l40, l60, l61, l99, l100, l120, l256, l999, l1999, l99999, lm, nI_add, pk_mul, nI_leI, nI_ltI, nI_eq, wuS_1, wuS_2, wuA_1, wuA_21, wuA_22, nI_m1, m1_nI, nIlt_m1, m1lt_nI, Nat.reduceEqDiff, Nat.reduceAdd, Nat.reduceMul, Nat.reduceSub, Nat.reduceLT, Nat.reduceLeDiff, reduceIte, if_true, if_false, Bool.false_eq_true, Nat.add_zero, Nat.zero_add, ne_eq, not_false_eq_true, not_true_eq_false, Nat.not_lt_zero, Nat.add_left_cancel_iff, Nat.add_right_cancel_iff, eq_self, upd_s, pk_sub, nI_pm, Nat.add_sub_cancel, List.length_cons, List.length_nil, Nat.add_eq_zero_iff, Nat.succ_ne_zero, and_false, false_and, l14, l18, l21, l23, l24, l26, l28, l29, l34, l35, l36, l41, l42, l43, l45, l47, l48, l49, l50, l51, l52, l57, l58, l59, l62, l63, l64, l96, l97, l98, l101, l102, l103, l104, l105, l106, l107, l108, l109, l110, l111, l112, l113, l114, l115, l116, l117, l118, l119, l121, l122, l127, l255, l700, l1320, l1000000]
  refine wp_for s.1 (fun i σ => σ = (nI k, nI i, w) ∧ agI t y s yk k i = true) ?_ (Nat.zero_le _) (by omega) ⟨rfl, rfl⟩
  rintro i _ kk hi ⟨rfl, hag⟩ hkk
  show wpO (B_X4_agrees_x17_x30_2 o (fun x2 x3 w => kk (x2, x3, w)) _ _ (nI k) (nI i) w) _
  unfold B_X4_agrees_x17_x30_2 J_X4_agrees_x17_x30_56 L_X5_dueOf_x31
  by_cases hlt : i < s.1
  · obtain ⟨s1, s2, s3, s4⟩ := hs.2 i hlt
    obtain ⟨e1, e2, e3⟩ := hS.2 i hlt
    have h1 := h38 (s.2.1 i) s1
    have h2 := hE (s.2.1 i) (by omega)
    have h3 := behS_le t (exC 0) yk (s.2.1 i)
    have h4 := hy.2.2.2.2.2 (s.2.1 i)
    simp (disch := omega) only [xB_s, xB2_s, xGet_s, xPut_s, xAld_s, xAst_s, xIf_t, xBool_s, l0, l1, l2, l3, l4, l5, l6, l7, l8, l9, l10, l11, l12, l13, l15, l16, l17, l19, l20, l25, l27, l30, l31, l32, l33, l39, l40, l60, l61, l99, l100, l120, l256, l999, l1999, l99999, lm, nI_add, pk_mul, nI_leI, nI_ltI, nI_eq, wuS_1, wuS_2, wuA_1, wuA_21, wuA_22, nI_m1, m1_nI, nIlt_m1, m1lt_nI, Nat.reduceEqDiff, Nat.reduceAdd, Nat.reduceMul, Nat.reduceSub, Nat.reduceLT, Nat.reduceLeDiff, reduceIte, if_true, if_false, Bool.false_eq_true, Nat.add_zero, Nat.zero_add, ne_eq, not_false_eq_true, not_true_eq_false, Nat.not_lt_zero, Nat.add_left_cancel_iff, Nat.add_right_cancel_iff, eq_self, upd_s, pk_sub, nI_pm, Nat.add_sub_cancel, List.length_cons, List.length_nil, Nat.add_eq_zero_iff, Nat.succ_ne_zero, and_false, false_and, l14, l18, l21, l23, l24, l26, l28, l29, l34, l35, l36, l41, l42, l43, l45, l47, l48, l49, l50, l51, l52, l57, l58, l59, l62, l63, l64, l96, l97, l98, l101, l102, l103, l104, l105, l106, l107, l108, l109, l110, l111, l112, l113, l114, l115, l116, l117, l118, l119, l121, l122, l127, l255, l700, l1320, l1000000, hS.1, show (s.1 ≤ i) = False from eq_false (by omega), e1, e2, e3, h1, h2]
    by_cases c1 : s.2.2.1 i = k
    · rw [if_pos c1]
      by_cases c2 : yE y (s.2.1 i) + behS t (exC 0) yk (s.2.1 i) = s.2.2.2 i
      · rw [if_pos c2]
        exact hkk hlt _ ⟨rfl, by rw [agI_s, hag, decide_eq_true c2, Bool.or_true]; rfl⟩
      · rw [if_neg c2]
        have : agI t y s yk k (i + 1) = false := by rw [agI_s, decide_eq_false c2, decide_eq_false (fun z => z c1)]; simp
        have := agI_f this (s.1 - (i + 1))
        rw [show i + 1 + (s.1 - (i + 1)) = s.1 by omega] at this
        rw [this]
        exact wp_some rfl
    · rw [if_neg c1]
      exact hkk hlt _ ⟨rfl, by rw [agI_s, hag, decide_eq_true c1]; rfl⟩
  · obtain rfl : i = s.1 := by omega
    simp (disch := omega) only [xB_s, xB2_s, xGet_s, xPut_s, xAld_s, xAst_s, xIf_t, xBool_s, l0, l1, l2, l3, l4, l5, l6, l7, l8, l9, l10, l11, l12, l13, l15, l16, l17, l19, l20, l25, l27, l30, l31, l32, l33, l39, l40, l60, l61, l99, l100, l120, l256, l999, l1999, l99999, lm, nI_add, pk_mul, nI_leI, nI_ltI, nI_eq, wuS_1, wuS_2, wuA_1, wuA_21, wuA_22, nI_m1, m1_nI, nIlt_m1, m1lt_nI, Nat.reduceEqDiff, Nat.reduceAdd, Nat.reduceMul, Nat.reduceSub, Nat.reduceLT, Nat.reduceLeDiff, reduceIte, if_true, if_false, Bool.false_eq_true, Nat.add_zero, Nat.zero_add, ne_eq, not_false_eq_true, not_true_eq_false, Nat.not_lt_zero, Nat.add_left_cancel_iff, Nat.add_right_cancel_iff, eq_self, upd_s, pk_sub, nI_pm, Nat.add_sub_cancel, List.length_cons, List.length_nil, Nat.add_eq_zero_iff, Nat.succ_ne_zero, and_false, false_and, l14, l18, l21, l23, l24, l26, l28, l29, l34, l35, l36, l41, l42, l43, l45, l47, l48, l49, l50, l51, l52, l57, l58, l59, l62, l63, l64, l96, l97, l98, l101, l102, l103, l104, l105, l106, l107, l108, l109, l110, l111, l112, l113, l114, l115, l116, l117, l118, l119, l121, l122, l127, l255, l700, l1320, l1000000, hS.1, Nat.le_refl]
    rw [hag]
    exact wp_some rfl
theorem x_latest {t : Tn} {s : Sn} {o : wO} {w : wS} (hs : sOk t s) (hS : SX s w) : L_X4_latestDay_x17 o w = some (nI (ltD s s.1), w) := by
  have hn := hs.1
  suffices h : wpO (L_X4_latestDay_x17 o w) (fun r => r = (nI (ltD s s.1), w)) by
    obtain ⟨a, e, rfl⟩ := h; exact e
  unfold L_X4_latestDay_x17 P_X4_latestDay_x17_4
  simp (disch := omega) only [xB_s, xB2_s, xGet_s, xPut_s, xAld_s, xAst_s, xIf_t, xBool_s, l0, l1, l2, l3, l4, l5, l6, l7, l8, l9, l10, l11, l12, l13, l15, l16, l17, l19, l20, l25, l27, l30, l31, l32, l33, l39, l40, l60, l61, l99, l100, l120, l256, l999, l1999, l99999, lm, nI_add, pk_mul, nI_leI, nI_ltI, nI_eq, wuS_1, wuS_2, wuA_1, wuA_21, wuA_22, nI_m1, m1_nI, nIlt_m1, m1lt_nI, Nat.reduceEqDiff, Nat.reduceAdd, Nat.reduceMul, Nat.reduceSub, Nat.reduceLT, Nat.reduceLeDiff, reduceIte, if_true, if_false, Bool.false_eq_true, Nat.add_zero, Nat.zero_add, ne_eq, not_false_eq_true, not_true_eq_false, Nat.not_lt_zero, Nat.add_left_cancel_iff, Nat.add_right_cancel_iff, eq_self, upd_s, pk_sub, nI_pm, Nat.add_sub_cancel, List.length_cons, List.length_nil, Nat.add_eq_zero_iff, Nat.succ_ne_zero, and_false, false_and, l14, l18, l21, l23, l24, l26, l28, l29, l34, l35, l36, l41, l42, l43, l45, l47, l48, l49, l50, l51, l52, l57, l58, l59, l62, l63, l64, l96, l97, l98, l101, l102, l103, l104, l105, l106, l107, l108, l109, l110, l111, l112, l113, l114, l115, l116, l117, l118, l119, l121, l122, l127, l255, l700, l1320, l1000000]
  refine wp_for s.1 (fun i σ => σ = (nI (ltD s i), nI i, w)) ?_ (Nat.zero_le _) (by omega) rfl
  rintro i _ kk hi rfl hkk
  show wpO (B_X4_latestDay_x17_4 o (fun x1 x2 w => kk (x1, x2, w)) _ (nI (ltD s i)) (nI i) w) _
  unfold B_X4_latestDay_x17_4
  by_cases hlt : i < s.1
  · obtain ⟨s1, s2, s3, s4⟩ := hs.2 i hlt
    have h1 := ltD_le (s := s) (N := 12) (n := i) (fun j hj => (hs.2 j (by omega)).2.2.1)
    simp (disch := omega) only [xB_s, xB2_s, xGet_s, xPut_s, xAld_s, xAst_s, xIf_t, xBool_s, l0, l1, l2, l3, l4, l5, l6, l7, l8, l9, l10, l11, l12, l13, l15, l16, l17, l19, l20, l25, l27, l30, l31, l32, l33, l39, l40, l60, l61, l99, l100, l120, l256, l999, l1999, l99999, lm, nI_add, pk_mul, nI_leI, nI_ltI, nI_eq, wuS_1, wuS_2, wuA_1, wuA_21, wuA_22, nI_m1, m1_nI, nIlt_m1, m1lt_nI, Nat.reduceEqDiff, Nat.reduceAdd, Nat.reduceMul, Nat.reduceSub, Nat.reduceLT, Nat.reduceLeDiff, reduceIte, if_true, if_false, Bool.false_eq_true, Nat.add_zero, Nat.zero_add, ne_eq, not_false_eq_true, not_true_eq_false, Nat.not_lt_zero, Nat.add_left_cancel_iff, Nat.add_right_cancel_iff, eq_self, upd_s, pk_sub, nI_pm, Nat.add_sub_cancel, List.length_cons, List.length_nil, Nat.add_eq_zero_iff, Nat.succ_ne_zero, and_false, false_and, l14, l18, l21, l23, l24, l26, l28, l29, l34, l35, l36, l41, l42, l43, l45, l47, l48, l49, l50, l51, l52, l57, l58, l59, l62, l63, l64, l96, l97, l98, l101, l102, l103, l104, l105, l106, l107, l108, l109, l110, l111, l112, l113, l114, l115, l116, l117, l118, l119, l121, l122, l127, l255, l700, l1320, l1000000, hS.1, show (s.1 ≤ i) = False from eq_false (by omega), (hS.2 i hlt).2.1]
    rw [xMax_n (by omega) (by omega)]
    exact hkk hlt _ rfl
  · obtain rfl : i = s.1 := by omega
    simp (disch := omega) only [xB_s, xB2_s, xGet_s, xPut_s, xAld_s, xAst_s, xIf_t, xBool_s, l0, l1, l2, l3, l4, l5, l6, l7, l8, l9, l10, l11, l12, l13, l15, l16, l17, l19, l20, l25, l27, l30, l31, l32, l33, l39, l40, l60, l61, l99, l100, l120, l256, l999, l1999, l99999, lm, nI_add, pk_mul, nI_leI, nI_ltI, nI_eq, wuS_1, wuS_2, wuA_1, wuA_21, wuA_22, nI_m1, m1_nI, nIlt_m1, m1lt_nI, Nat.reduceEqDiff, Nat.reduceAdd, Nat.reduceMul, Nat.reduceSub, Nat.reduceLT, Nat.reduceLeDiff, reduceIte, if_true, if_false, Bool.false_eq_true, Nat.add_zero, Nat.zero_add, ne_eq, not_false_eq_true, not_true_eq_false, Nat.not_lt_zero, Nat.add_left_cancel_iff, Nat.add_right_cancel_iff, eq_self, upd_s, pk_sub, nI_pm, Nat.add_sub_cancel, List.length_cons, List.length_nil, Nat.add_eq_zero_iff, Nat.succ_ne_zero, and_false, false_and, l14, l18, l21, l23, l24, l26, l28, l29, l34, l35, l36, l41, l42, l43, l45, l47, l48, l49, l50, l51, l52, l57, l58, l59, l62, l63, l64, l96, l97, l98, l101, l102, l103, l104, l105, l106, l107, l108, l109, l110, l111, l112, l113, l114, l115, l116, l117, l118, l119, l121, l122, l127, l255, l700, l1320, l1000000, hS.1, Nat.le_refl]
    exact wp_some rfl
theorem x_seen17 {t : Tn} {y : Yw} {s : Sn} {o : wO} {w : wS} (T : XC t o w) (ho : tOk t) (hy : yOk t y) (hD : yD y ≤ 999) (hs : sOk t s) (hS : SX s w) (h8 : w.1 3008 = nI 0) (Y : XY y (w.2.1 32)) : wpO (J_X9_isAsSeen_17 o w) (fun r => Fr xKs xAs w r.2 ∧ r.1 = nI (okD t y s 12).toNat) := by
  have hL := ltD_le (s := s) (N := 12) (n := s.1) (fun j hj => (hs.2 j hj).2.2.1)
  have hO := okD_l (t := t) (y := y) (s := s) (12 - ltD s s.1)
  rw [show ltD s s.1 + (12 - ltD s s.1) = 12 by omega] at hO
  rw [hO]
  unfold J_X9_isAsSeen_17
  simp (disch := omega) only [xB_s, xB2_s, xGet_s, xPut_s, xAld_s, xAst_s, xIf_t, xBool_s, l0, l1, l2, l3, l4, l5, l6, l7, l8, l9, l10, l11, l12, l13, l15, l16, l17, l19, l20, l25, l27, l30, l31, l32, l33, l39, l40, l60, l61, l99, l100, l120, l256, l999, l1999, l99999, lm, nI_add, pk_mul, nI_leI, nI_ltI, nI_eq, wuS_1, wuS_2, wuA_1, wuA_21, wuA_22, nI_m1, m1_nI, nIlt_m1, m1lt_nI, Nat.reduceEqDiff, Nat.reduceAdd, Nat.reduceMul, Nat.reduceSub, Nat.reduceLT, Nat.reduceLeDiff, reduceIte, if_true, if_false, Bool.false_eq_true, Nat.add_zero, Nat.zero_add, ne_eq, not_false_eq_true, not_true_eq_false, Nat.not_lt_zero, Nat.add_left_cancel_iff, Nat.add_right_cancel_iff, eq_self, upd_s, pk_sub, nI_pm, Nat.add_sub_cancel, List.length_cons, List.length_nil, Nat.add_eq_zero_iff, Nat.succ_ne_zero, and_false, false_and, l14, l18, l21, l23, l24, l26, l28, l29, l34, l35, l36, l41, l42, l43, l45, l47, l48, l49, l50, l51, l52, l57, l58, l59, l62, l63, l64, l96, l97, l98, l101, l102, l103, l104, l105, l106, l107, l108, l109, l110, l111, l112, l113, l114, l115, l116, l117, l118, l119, l121, l122, l127, l255, l700, l1320, l1000000, x_latest (o := o) hs hS]
  unfold P_X9_isAsSeen_32
  refine wp_for (ltD s s.1) (fun i σ => ∃ w' : wS, σ = (nI (ltD s s.1), nI (i + 1), w') ∧ Fr xKs xAs w w' ∧ w'.1 3008 = nI 0 ∧ XY (daysY t (exC 0) y i) (w'.2.1 32) ∧ okD t y s i = true) ?_ (Nat.zero_le _) (by omega) ⟨w, rfl, Fr.refl, h8, Y, rfl⟩
  rintro i _ kk hi ⟨w', rfl, F, g8, gY, gO⟩ hkk
  show wpO (B_X9_isAsSeen_32 o (fun x4 x5 w => kk (x4, x5, w)) _ _ (nI (ltD s s.1)) (nI (i + 1)) w') _
  unfold B_X9_isAsSeen_32
  by_cases hlt : i < ltD s s.1
  · simp (disch := omega) only [xB_s, xB2_s, xGet_s, xPut_s, xAld_s, xAst_s, xIf_t, xBool_s, l0, l1, l2, l3, l4, l5, l6, l7, l8, l9, l10, l11, l12, l13, l15, l16, l17, l19, l20, l25, l27, l30, l31, l32, l33, l39, l40, l60, l61, l99, l100, l120, l256, l999, l1999, l99999, lm, nI_add, pk_mul, nI_leI, nI_ltI, nI_eq, wuS_1, wuS_2, wuA_1, wuA_21, wuA_22, nI_m1, m1_nI, nIlt_m1, m1lt_nI, Nat.reduceEqDiff, Nat.reduceAdd, Nat.reduceMul, Nat.reduceSub, Nat.reduceLT, Nat.reduceLeDiff, reduceIte, if_true, if_false, Bool.false_eq_true, Nat.add_zero, Nat.zero_add, ne_eq, not_false_eq_true, not_true_eq_false, Nat.not_lt_zero, Nat.add_left_cancel_iff, Nat.add_right_cancel_iff, eq_self, upd_s, pk_sub, nI_pm, Nat.add_sub_cancel, List.length_cons, List.length_nil, Nat.add_eq_zero_iff, Nat.succ_ne_zero, and_false, false_and, l14, l18, l21, l23, l24, l26, l28, l29, l34, l35, l36, l41, l42, l43, l45, l47, l48, l49, l50, l51, l52, l57, l58, l59, l62, l63, l64, l96, l97, l98, l101, l102, l103, l104, l105, l106, l107, l108, l109, l110, l111, l112, l113, l114, l115, l116, l117, l118, l119, l121, l122, l127, l255, l700, l1320, l1000000, show (ltD s s.1 < i + 1) = False from eq_false (by omega)]
    refine wp_B (x_oneDay (T.fr F) ho (daysY_ok hy i (by omega)) (by omega) g8 gY) ?_
    rintro w2 ⟨a1, a2, a3, a4⟩
    have F2 := F.trans a1
    have ea := x_agrees (yk := daysY t (exC 0) y i) (k := i + 1) (o := o) ho hy hs (hS.fr F2) a4.2.2.1 (fun d hd => by
      have := a3.2.2.2.2.1 d hd
      rw [dayY_same.2.2, (daysY_same i).2.2] at this
      exact this) (by omega)
    simp (disch := omega) only [xB_s, xB2_s, xGet_s, xPut_s, xAld_s, xAst_s, xIf_t, xBool_s, l0, l1, l2, l3, l4, l5, l6, l7, l8, l9, l10, l11, l12, l13, l15, l16, l17, l19, l20, l25, l27, l30, l31, l32, l33, l39, l40, l60, l61, l99, l100, l120, l256, l999, l1999, l99999, lm, nI_add, pk_mul, nI_leI, nI_ltI, nI_eq, wuS_1, wuS_2, wuA_1, wuA_21, wuA_22, nI_m1, m1_nI, nIlt_m1, m1lt_nI, Nat.reduceEqDiff, Nat.reduceAdd, Nat.reduceMul, Nat.reduceSub, Nat.reduceLT, Nat.reduceLeDiff, reduceIte, if_true, if_false, Bool.false_eq_true, Nat.add_zero, Nat.zero_add, ne_eq, not_false_eq_true, not_true_eq_false, Nat.not_lt_zero, Nat.add_left_cancel_iff, Nat.add_right_cancel_iff, eq_self, upd_s, pk_sub, nI_pm, Nat.add_sub_cancel, List.length_cons, List.length_nil, Nat.add_eq_zero_iff, Nat.succ_ne_zero, and_false, false_and, l14, l18, l21, l23, l24, l26, l28, l29, l34, l35, l36, l41, l42, l43, l45, l47, l48, l49, l50, l51, l52, l57, l58, l59, l62, l63, l64, l96, l97, l98, l101, l102, l103, l104, l105, l106, l107, l108, l109, l110, l111, l112, l113, l114, l115, l116, l117, l118, l119, l121, l122, l127, l255, l700, l1320, l1000000, ea]
    cases hg : agI t y s (daysY t (exC 0) y i) (i + 1) s.1 with
    | false =>
      simp (disch := omega) only [xB_s, xB2_s, xGet_s, xPut_s, xAld_s, xAst_s, xIf_t, xBool_s, l0, l1, l2, l3, l4, l5, l6, l7, l8, l9, l10, l11, l12, l13, l15, l16, l17, l19, l20, l25, l27, l30, l31, l32, l33, l39, l40, l60, l61, l99, l100, l120, l256, l999, l1999, l99999, lm, nI_add, pk_mul, nI_leI, nI_ltI, nI_eq, wuS_1, wuS_2, wuA_1, wuA_21, wuA_22, nI_m1, m1_nI, nIlt_m1, m1lt_nI, Nat.reduceEqDiff, Nat.reduceAdd, Nat.reduceMul, Nat.reduceSub, Nat.reduceLT, Nat.reduceLeDiff, reduceIte, if_true, if_false, Bool.false_eq_true, Nat.add_zero, Nat.zero_add, ne_eq, not_false_eq_true, not_true_eq_false, Nat.not_lt_zero, Nat.add_left_cancel_iff, Nat.add_right_cancel_iff, eq_self, upd_s, pk_sub, nI_pm, Nat.add_sub_cancel, List.length_cons, List.length_nil, Nat.add_eq_zero_iff, Nat.succ_ne_zero, and_false, false_and, l14, l18, l21, l23, l24, l26, l28, l29, l34, l35, l36, l41, l42, l43, l45, l47, l48, l49, l50, l51, l52, l57, l58, l59, l62, l63, l64, l96, l97, l98, l101, l102, l103, l104, l105, l106, l107, l108, l109, l110, l111, l112, l113, l114, l115, l116, l117, l118, l119, l121, l122, l127, l255, l700, l1320, l1000000, Bool.toNat_false]
      have : okD t y s (i + 1) = false := by
        show (okD t y s i && _) = false
        rw [hg, Bool.and_false]
      have := okD_f this (ltD s s.1 - (i + 1))
      rw [show i + 1 + (ltD s s.1 - (i + 1)) = ltD s s.1 by omega] at this
      rw [this]
      exact wp_some ⟨F2, rfl⟩
    | true =>
      simp (disch := omega) only [xB_s, xB2_s, xGet_s, xPut_s, xAld_s, xAst_s, xIf_t, xBool_s, l0, l1, l2, l3, l4, l5, l6, l7, l8, l9, l10, l11, l12, l13, l15, l16, l17, l19, l20, l25, l27, l30, l31, l32, l33, l39, l40, l60, l61, l99, l100, l120, l256, l999, l1999, l99999, lm, nI_add, pk_mul, nI_leI, nI_ltI, nI_eq, wuS_1, wuS_2, wuA_1, wuA_21, wuA_22, nI_m1, m1_nI, nIlt_m1, m1lt_nI, Nat.reduceEqDiff, Nat.reduceAdd, Nat.reduceMul, Nat.reduceSub, Nat.reduceLT, Nat.reduceLeDiff, reduceIte, if_true, if_false, Bool.false_eq_true, Nat.add_zero, Nat.zero_add, ne_eq, not_false_eq_true, not_true_eq_false, Nat.not_lt_zero, Nat.add_left_cancel_iff, Nat.add_right_cancel_iff, eq_self, upd_s, pk_sub, nI_pm, Nat.add_sub_cancel, List.length_cons, List.length_nil, Nat.add_eq_zero_iff, Nat.succ_ne_zero, and_false, false_and, l14, l18, l21, l23, l24, l26, l28, l29, l34, l35, l36, l41, l42, l43, l45, l47, l48, l49, l50, l51, l52, l57, l58, l59, l62, l63, l64, l96, l97, l98, l101, l102, l103, l104, l105, l106, l107, l108, l109, l110, l111, l112, l113, l114, l115, l116, l117, l118, l119, l121, l122, l127, l255, l700, l1320, l1000000, Bool.toNat_true]
      exact hkk hlt _ ⟨w2, rfl, F2, a2, a3, by show (okD t y s i && _) = true; rw [hg, gO]; rfl⟩
  · obtain rfl : i = ltD s s.1 := by omega
    simp (disch := omega) only [xB_s, xB2_s, xGet_s, xPut_s, xAld_s, xAst_s, xIf_t, xBool_s, l0, l1, l2, l3, l4, l5, l6, l7, l8, l9, l10, l11, l12, l13, l15, l16, l17, l19, l20, l25, l27, l30, l31, l32, l33, l39, l40, l60, l61, l99, l100, l120, l256, l999, l1999, l99999, lm, nI_add, pk_mul, nI_leI, nI_ltI, nI_eq, wuS_1, wuS_2, wuA_1, wuA_21, wuA_22, nI_m1, m1_nI, nIlt_m1, m1lt_nI, Nat.reduceEqDiff, Nat.reduceAdd, Nat.reduceMul, Nat.reduceSub, Nat.reduceLT, Nat.reduceLeDiff, reduceIte, if_true, if_false, Bool.false_eq_true, Nat.add_zero, Nat.zero_add, ne_eq, not_false_eq_true, not_true_eq_false, Nat.not_lt_zero, Nat.add_left_cancel_iff, Nat.add_right_cancel_iff, eq_self, upd_s, pk_sub, nI_pm, Nat.add_sub_cancel, List.length_cons, List.length_nil, Nat.add_eq_zero_iff, Nat.succ_ne_zero, and_false, false_and, l14, l18, l21, l23, l24, l26, l28, l29, l34, l35, l36, l41, l42, l43, l45, l47, l48, l49, l50, l51, l52, l57, l58, l59, l62, l63, l64, l96, l97, l98, l101, l102, l103, l104, l105, l106, l107, l108, l109, l110, l111, l112, l113, l114, l115, l116, l117, l118, l119, l121, l122, l127, l255, l700, l1320, l1000000, show (ltD s s.1 < ltD s s.1 + 1) = True from eq_true (by omega)]
    rw [gO]
    exact wp_some ⟨F, rfl⟩
/-- the town, if that one's habit were that -/
def tG (t : Tn) (p h : Nat) : Tn := tH' t (fu (tH t) p h)
theorem tG_ok {t : Tn} {p h : Nat} (ho : tOk t) (hh : h ≤ 60) : tOk (tG t p h) := ⟨ho.1, ho.2.1, ho.2.2.1, ho.2.2.2.1, fun q => by
  show fu (tH t) p h q ≤ 60
  rw [fu_s]
  split
  · exact hh
  · exact ho.2.2.2.2.1 q, ho.2.2.2.2.2.1, ho.2.2.2.2.2.2.1, ho.2.2.2.2.2.2.2.1, ho.2.2.2.2.2.2.2.2⟩
theorem XC.g {t : Tn} {o : wO} {w : wS} {p h : Nat} (T : XC t o w) : XC (tG t p h) o (wuA w 33 (upd (w.2.1 33) p (nI h))) := by
  refine ⟨T.1.of (fun _ _ => rfl) (fun c hc => ?_) (fun _ _ => rfl), T.2.1, fun q hq => ?_⟩
  · simp at hc
    rw [wuA_21, if_neg (by omega)]
  · rw [wuA_21, if_pos rfl, upd_s]
    show _ = nI (fu (tH t) p h q)
    rw [fu_s]
    by_cases e : q = p
    · rw [if_pos e, if_pos e]
    · rw [if_neg e, if_neg e]; exact T.2.2 q hq
theorem wp_an2 {α : Type} {o : Option α} {P Q : α → Prop} (h : wpO o P) (h' : wpO o Q) : wpO o (fun a => P a ∧ Q a) := by
  obtain ⟨a, e, ha⟩ := h
  obtain ⟨b, e', hb⟩ := h'
  obtain rfl := Option.some.inj (e.symm.trans e')
  exact ⟨a, e, ha, hb⟩
theorem x_fromNowJ {t : Tn} {y : Yw} {o : wO} {w : wS} (T : XT t o w) (ho : tOk t) (Y : XY y (w.2.1 14)) : wpO (L_X9_fromNow o w) (fun w' => w'.2.2.2.1 = w.2.2.2.1) := by
  have b1 := ho.1
  have r1 := xRef_t T.2.1
  unfold L_X9_fromNow L_X1_begin_t0_x13 L_X5_copyFrom_x31_x13
  simp (disch := omega) only [xB_s, xB2_s, xGet_s, xPut_s, xAld_s, xAst_s, xIf_t, xBool_s, l0, l1, l2, l3, l4, l5, l6, l7, l8, l9, l10, l11, l12, l13, l15, l16, l17, l19, l20, l25, l27, l30, l31, l32, l33, l39, l40, l60, l61, l99, l100, l120, l256, l999, l1999, l99999, lm, nI_add, pk_mul, nI_leI, nI_ltI, nI_eq, wuS_1, wuS_2, wuA_1, wuA_21, wuA_22, nI_m1, m1_nI, nIlt_m1, m1lt_nI, Nat.reduceEqDiff, Nat.reduceAdd, Nat.reduceMul, Nat.reduceSub, Nat.reduceLT, Nat.reduceLeDiff, reduceIte, if_true, if_false, Bool.false_eq_true, Nat.add_zero, Nat.zero_add, ne_eq, not_false_eq_true, not_true_eq_false, Nat.not_lt_zero, Nat.add_left_cancel_iff, Nat.add_right_cancel_iff, eq_self, upd_s, pk_sub, nI_pm, Nat.add_sub_cancel, List.length_cons, List.length_nil, Nat.add_eq_zero_iff, Nat.succ_ne_zero, and_false, false_and, l14, l18, l21, l23, l24, l26, l28, l29, l34, l35, l36, l41, l42, l43, l45, l47, l48, l49, l50, l51, l52, l57, l58, l59, l62, l63, l64, l96, l97, l98, l101, l102, l103, l104, l105, l106, l107, l108, l109, l110, l111, l112, l113, l114, l115, l116, l117, l118, l119, l121, l122, l127, l255, l700, l1320, l1000000, r1, xPutR_s, xCpy_n, wuR_1, wuR_21]
  refine wp_B (wp_B x_fill (Q := fun w' => w'.2.2.2.1 = w.2.2.2.1) ?_) (fun a ha => wp_some ha)
  rintro w2 ⟨F, h34⟩
  have a4 : w2.2.2 = (wuR w 3010 (.ref (oT o))).2.2 := by rw [F.2.2]; rfl
  refine wp_some ?_
  show w2.2.2.2.1 = w.2.2.2.1
  rw [a4]; rfl
theorem x_asSeen {t : Tn} {y : Yw} {s : Sn} {o : wO} {w : wS} {p h : Nat} (T : XT t o w) (ho : tOk t) (hy : yOk t y) (hD : yD y ≤ 999) (hs : sOk t s) (hS : SX s w) (Y : XY y (w.2.1 14)) (hp : p < tP t) (hh : h ≤ 60) : wpO (L_X9_isAsSeen o (nI p) (nI h) w) (fun r => QX w r.2 ∧ r.1 = nI (okD (tG t p h) y s 12).toNat ∧ r.2.2.2.2.1 = w.2.2.2.1) := by
  have b1 := ho.1
  unfold L_X9_isAsSeen
  refine wp_B (wp_an2 (x_fromNow T ho Y) (x_fromNowJ T ho Y)) ?_
  rintro w1 ⟨⟨a1, a2, a3, a4, a5, a6⟩, aJ⟩
  simp (disch := omega) only [xB_s, xB2_s, xGet_s, xPut_s, xAld_s, xAst_s, xIf_t, xBool_s, l0, l1, l2, l3, l4, l5, l6, l7, l8, l9, l10, l11, l12, l13, l15, l16, l17, l19, l20, l25, l27, l30, l31, l32, l33, l39, l40, l60, l61, l99, l100, l120, l256, l999, l1999, l99999, lm, nI_add, pk_mul, nI_leI, nI_ltI, nI_eq, wuS_1, wuS_2, wuA_1, wuA_21, wuA_22, nI_m1, m1_nI, nIlt_m1, m1lt_nI, Nat.reduceEqDiff, Nat.reduceAdd, Nat.reduceMul, Nat.reduceSub, Nat.reduceLT, Nat.reduceLeDiff, reduceIte, if_true, if_false, Bool.false_eq_true, Nat.add_zero, Nat.zero_add, ne_eq, not_false_eq_true, not_true_eq_false, Nat.not_lt_zero, Nat.add_left_cancel_iff, Nat.add_right_cancel_iff, eq_self, upd_s, pk_sub, nI_pm, Nat.add_sub_cancel, List.length_cons, List.length_nil, Nat.add_eq_zero_iff, Nat.succ_ne_zero, and_false, false_and, l14, l18, l21, l23, l24, l26, l28, l29, l34, l35, l36, l41, l42, l43, l45, l47, l48, l49, l50, l51, l52, l57, l58, l59, l62, l63, l64, l96, l97, l98, l101, l102, l103, l104, l105, l106, l107, l108, l109, l110, l111, l112, l113, l114, l115, l116, l117, l118, l119, l121, l122, l127, l255, l700, l1320, l1000000]
  have q2 : QX w (wuA w1 33 (upd (w1.2.1 33) p (nI h))) := a1.trans (QX.fr (Fr.refl.A (by decide)))
  refine wp_mono (x_seen17 (y := y) (s := s) (t := tG t p h) a2.g (tG_ok ho hh) hy hD hs (hS.q q2) a3 ?_) ?_
  · rw [wuA_21, if_neg (by decide)]; exact a5
  · rintro r ⟨c1, c2⟩
    exact ⟨q2.trans (QX.fr2 c1), c2, by rw [c1.2.2]; exact aJ⟩
theorem x_asSeen0 {t : Tn} {y : Yw} {s : Sn} {o : wO} {w : wS} {v : Int32} (T : XT t o w) (ho : tOk t) (hy : yOk t y) (hD : yD y ≤ 999) (hs : sOk t s) (hS : SX s w) (Y : XY y (w.2.1 14)) : wpO (L_X9_isAsSeen o mI v w) (fun r => QX w r.2 ∧ r.1 = nI (okD t y s 12).toNat) := by
  unfold L_X9_isAsSeen
  refine wp_B (x_fromNow T ho Y) ?_
  rintro w1 ⟨a1, a2, a3, a4, a5, a6⟩
  simp (disch := omega) only [xB_s, xB2_s, xGet_s, xPut_s, xAld_s, xAst_s, xIf_t, xBool_s, l0, l1, l2, l3, l4, l5, l6, l7, l8, l9, l10, l11, l12, l13, l15, l16, l17, l19, l20, l25, l27, l30, l31, l32, l33, l39, l40, l60, l61, l99, l100, l120, l256, l999, l1999, l99999, lm, nI_add, pk_mul, nI_leI, nI_ltI, nI_eq, wuS_1, wuS_2, wuA_1, wuA_21, wuA_22, nI_m1, m1_nI, nIlt_m1, m1lt_nI, Nat.reduceEqDiff, Nat.reduceAdd, Nat.reduceMul, Nat.reduceSub, Nat.reduceLT, Nat.reduceLeDiff, reduceIte, if_true, if_false, Bool.false_eq_true, Nat.add_zero, Nat.zero_add, ne_eq, not_false_eq_true, not_true_eq_false, Nat.not_lt_zero, Nat.add_left_cancel_iff, Nat.add_right_cancel_iff, eq_self, upd_s, pk_sub, nI_pm, Nat.add_sub_cancel, List.length_cons, List.length_nil, Nat.add_eq_zero_iff, Nat.succ_ne_zero, and_false, false_and, l14, l18, l21, l23, l24, l26, l28, l29, l34, l35, l36, l41, l42, l43, l45, l47, l48, l49, l50, l51, l52, l57, l58, l59, l62, l63, l64, l96, l97, l98, l101, l102, l103, l104, l105, l106, l107, l108, l109, l110, l111, l112, l113, l114, l115, l116, l117, l118, l119, l121, l122, l127, l255, l700, l1320, l1000000]
  refine wp_mono (x_seen17 (y := y) (s := s) a2 ho hy hD hs (hS.q a1) a3 a5) ?_
  rintro r ⟨c1, c2⟩
  exact ⟨a1.trans (QX.fr2 c1), c2⟩
theorem m_agrees {t : Tn} {y yk : Yw} {s : Sn} {w : wS} {k : Nat} {ke81 : wS → Option (Int32 × wS)} {ke89 : Int32 → wS → Option (Int32 × wS)} {Q : Int32 × wS → Prop} (ho : tOk t) (hy : yOk t y) (hs : sOk t s) (hS : SM s w) (h20 : ∀ d, d < tD t → w.2.1 20 d = nI (behS t (exC 0) yk d)) (hE : ∀ d, d < 6 → w.2.1 16 (27 + d) = nI (yE y d)) (hk : k ≤ 12) (hf : agI t y s yk k s.1 = false → wpO (ke81 w) Q) (ht : agI t y s yk k s.1 = true → wpO (ke89 (nI k) w) Q) : wpO (P_X10_isSeen_16 ke81 ke89 5000 (nI k) (nI 0) w) Q := by
  have b2 := ho.2.1
  have hn := hs.1
  unfold P_X10_isSeen_16
  refine wp_for s.1 (fun i σ => σ = (nI k, nI i, w) ∧ agI t y s yk k i = true) ?_ (Nat.zero_le _) (by omega) ⟨rfl, rfl⟩
  rintro i _ kk hi ⟨rfl, hag⟩ hkk
  show wpO (B_X10_isSeen_16 (fun x1 x2 w => kk (x1, x2, w)) _ _ (nI k) (nI i) w) _
  unfold B_X10_isSeen_16 J_X10_isSeen_83
  by_cases hlt : i < s.1
  · obtain ⟨s1, s2, s3, s4⟩ := hs.2 i hlt
    obtain ⟨e1, e2, e3⟩ := hS.2 i hlt
    have h1 := h20 (s.2.1 i) s1
    have h2 := hE (s.2.1 i) (by omega)
    have h3 := behS_le t (exC 0) yk (s.2.1 i)
    have h4 := hy.2.2.2.2.2 (s.2.1 i)
    simp (disch := omega) only [xB_s, xB2_s, xGet_s, xPut_s, xAld_s, xAst_s, xIf_t, xBool_s, l0, l1, l2, l3, l4, l5, l6, l7, l8, l9, l10, l11, l12, l13, l15, l16, l17, l19, l20, l25, l27, l30, l31, l32, l33, l39, l40, l60, l61, l99, l100, l120, l256, l999, l1999, l99999, lm, nI_add, pk_mul, nI_leI, nI_ltI, nI_eq, wuS_1, wuS_2, wuA_1, wuA_21, wuA_22, nI_m1, m1_nI, nIlt_m1, m1lt_nI, Nat.reduceEqDiff, Nat.reduceAdd, Nat.reduceMul, Nat.reduceSub, Nat.reduceLT, Nat.reduceLeDiff, reduceIte, if_true, if_false, Bool.false_eq_true, Nat.add_zero, Nat.zero_add, ne_eq, not_false_eq_true, not_true_eq_false, Nat.not_lt_zero, Nat.add_left_cancel_iff, Nat.add_right_cancel_iff, eq_self, upd_s, pk_sub, nI_pm, Nat.add_sub_cancel, List.length_cons, List.length_nil, Nat.add_eq_zero_iff, Nat.succ_ne_zero, and_false, false_and, l14, l18, l21, l23, l24, l26, l28, l29, l34, l35, l36, l41, l42, l43, l45, l47, l48, l49, l50, l51, l52, l57, l58, l59, l62, l63, l64, l96, l97, l98, l101, l102, l103, l104, l105, l106, l107, l108, l109, l110, l111, l112, l113, l114, l115, l116, l117, l118, l119, l121, l122, l127, l255, l700, l1320, l1000000, hS.1, show (s.1 ≤ i) = False from eq_false (by omega), e1, e2, e3, h1, h2]
    by_cases c1 : s.2.2.1 i = k
    · rw [if_pos c1]
      by_cases c2 : yE y (s.2.1 i) + behS t (exC 0) yk (s.2.1 i) = s.2.2.2 i
      · rw [if_pos c2]
        exact hkk hlt _ ⟨rfl, by rw [agI_s, hag, decide_eq_true c2, Bool.or_true]; rfl⟩
      · rw [if_neg c2]
        have : agI t y s yk k (i + 1) = false := by rw [agI_s, decide_eq_false c2, decide_eq_false (fun z => z c1)]; simp
        have := agI_f this (s.1 - (i + 1))
        rw [show i + 1 + (s.1 - (i + 1)) = s.1 by omega] at this
        exact hf this
    · rw [if_neg c1]
      exact hkk hlt _ ⟨rfl, by rw [agI_s, hag, decide_eq_true c1]; rfl⟩
  · obtain rfl : i = s.1 := by omega
    simp (disch := omega) only [xB_s, xB2_s, xGet_s, xPut_s, xAld_s, xAst_s, xIf_t, xBool_s, l0, l1, l2, l3, l4, l5, l6, l7, l8, l9, l10, l11, l12, l13, l15, l16, l17, l19, l20, l25, l27, l30, l31, l32, l33, l39, l40, l60, l61, l99, l100, l120, l256, l999, l1999, l99999, lm, nI_add, pk_mul, nI_leI, nI_ltI, nI_eq, wuS_1, wuS_2, wuA_1, wuA_21, wuA_22, nI_m1, m1_nI, nIlt_m1, m1lt_nI, Nat.reduceEqDiff, Nat.reduceAdd, Nat.reduceMul, Nat.reduceSub, Nat.reduceLT, Nat.reduceLeDiff, reduceIte, if_true, if_false, Bool.false_eq_true, Nat.add_zero, Nat.zero_add, ne_eq, not_false_eq_true, not_true_eq_false, Nat.not_lt_zero, Nat.add_left_cancel_iff, Nat.add_right_cancel_iff, eq_self, upd_s, pk_sub, nI_pm, Nat.add_sub_cancel, List.length_cons, List.length_nil, Nat.add_eq_zero_iff, Nat.succ_ne_zero, and_false, false_and, l14, l18, l21, l23, l24, l26, l28, l29, l34, l35, l36, l41, l42, l43, l45, l47, l48, l49, l50, l51, l52, l57, l58, l59, l62, l63, l64, l96, l97, l98, l101, l102, l103, l104, l105, l106, l107, l108, l109, l110, l111, l112, l113, l114, l115, l116, l117, l118, l119, l121, l122, l127, l255, l700, l1320, l1000000, hS.1, Nat.le_refl]
    exact ht hag
abbrev mAg : List Nat := [16, 18, 19, 20, 21, 22, 26]
theorem m_isSeen {t : Tn} {y : Yw} {s : Sn} {w : wS} (ho : tOk t) (hy : yOk t y) (hD : yD y ≤ 999) (hs : sOk t s) (hS : SM s w) (T : TM t w) (X : EM (exC 0) w) (Y0 : YM y (w.2.1 16) 0) (Y : YM y (w.2.1 16) 33) : wpO (L_X10_isSeen w) (fun r => Fr [49, 50, 51] mAg w r.2 ∧ (∀ k, k < 33 → r.2.2.1 16 k = w.2.1 16 k) ∧ r.1 = nI (okD t y s 12).toNat ∧ (okD t y s 12 = true → ∀ d, d < tD t → r.2.2.1 26 d = nI (behS t (exC 0) (daysY t (exC 0) y 1) d))) := by
  have b2 := ho.2.1
  unfold L_X10_isSeen P_X10_isSeen_2
  simp (disch := omega) only [xB_s, xB2_s, xGet_s, xPut_s, xAld_s, xAst_s, xIf_t, xBool_s, l0, l1, l2, l3, l4, l5, l6, l7, l8, l9, l10, l11, l12, l13, l15, l16, l17, l19, l20, l25, l27, l30, l31, l32, l33, l39, l40, l60, l61, l99, l100, l120, l256, l999, l1999, l99999, lm, nI_add, pk_mul, nI_leI, nI_ltI, nI_eq, wuS_1, wuS_2, wuA_1, wuA_21, wuA_22, nI_m1, m1_nI, nIlt_m1, m1lt_nI, Nat.reduceEqDiff, Nat.reduceAdd, Nat.reduceMul, Nat.reduceSub, Nat.reduceLT, Nat.reduceLeDiff, reduceIte, if_true, if_false, Bool.false_eq_true, Nat.add_zero, Nat.zero_add, ne_eq, not_false_eq_true, not_true_eq_false, Nat.not_lt_zero, Nat.add_left_cancel_iff, Nat.add_right_cancel_iff, eq_self, upd_s, pk_sub, nI_pm, Nat.add_sub_cancel, List.length_cons, List.length_nil, Nat.add_eq_zero_iff, Nat.succ_ne_zero, and_false, false_and, l14, l18, l21, l23, l24, l26, l28, l29, l34, l35, l36, l41, l42, l43, l45, l47, l48, l49, l50, l51, l52, l57, l58, l59, l62, l63, l64, l96, l97, l98, l101, l102, l103, l104, l105, l106, l107, l108, l109, l110, l111, l112, l113, l114, l115, l116, l117, l118, l119, l121, l122, l127, l255, l700, l1320, l1000000]
  refine wp_for 12 (fun i σ => ∃ w' : wS, σ = (nI (i + 1), w') ∧ Fr [49, 50, 51] mAg w w' ∧ (∀ k, k < 33 → w'.2.1 16 k = w.2.1 16 k) ∧ YM (daysY t (exC 0) y i) (w'.2.1 16) 33 ∧ okD t y s i = true ∧ (2 ≤ i → ∀ d, d < tD t → w'.2.1 26 d = nI (behS t (exC 0) (daysY t (exC 0) y 1) d))) ?_ (Nat.zero_le _) (by omega) ⟨w, rfl, Fr.refl, fun _ _ => rfl, Y, rfl, fun h => by omega⟩
  rintro i _ kk hi ⟨w', rfl, F, f16, gY, gO, g2⟩ hkk
  show wpO (B_X10_isSeen_2 (fun x1 w => kk (x1, w)) _ _ (nI (i + 1)) w') _
  unfold B_X10_isSeen_2
  by_cases hlt : i < 12
  · simp (disch := omega) only [xB_s, xB2_s, xGet_s, xPut_s, xAld_s, xAst_s, xIf_t, xBool_s, l0, l1, l2, l3, l4, l5, l6, l7, l8, l9, l10, l11, l12, l13, l15, l16, l17, l19, l20, l25, l27, l30, l31, l32, l33, l39, l40, l60, l61, l99, l100, l120, l256, l999, l1999, l99999, lm, nI_add, pk_mul, nI_leI, nI_ltI, nI_eq, wuS_1, wuS_2, wuA_1, wuA_21, wuA_22, nI_m1, m1_nI, nIlt_m1, m1lt_nI, Nat.reduceEqDiff, Nat.reduceAdd, Nat.reduceMul, Nat.reduceSub, Nat.reduceLT, Nat.reduceLeDiff, reduceIte, if_true, if_false, Bool.false_eq_true, Nat.add_zero, Nat.zero_add, ne_eq, not_false_eq_true, not_true_eq_false, Nat.not_lt_zero, Nat.add_left_cancel_iff, Nat.add_right_cancel_iff, eq_self, upd_s, pk_sub, nI_pm, Nat.add_sub_cancel, List.length_cons, List.length_nil, Nat.add_eq_zero_iff, Nat.succ_ne_zero, and_false, false_and, l14, l18, l21, l23, l24, l26, l28, l29, l34, l35, l36, l41, l42, l43, l45, l47, l48, l49, l50, l51, l52, l57, l58, l59, l62, l63, l64, l96, l97, l98, l101, l102, l103, l104, l105, l106, l107, l108, l109, l110, l111, l112, l113, l114, l115, l116, l117, l118, l119, l121, l122, l127, l255, l700, l1320, l1000000, show (12 < i + 1) = False from eq_false (by omega)]
    have T' : TM t w' := T.fr F (by decide) (by decide)
    have X' : EM (exC 0) w' := X.of (fun k h1 h2 => F.1 k (by simp; omega))
    refine wp_B (m_dayGoes T' X' ho (daysY_ok hy i (by omega)) (by omega) gY) ?_
    rintro w2 ⟨a1, a2, a3⟩
    have F2 : Fr [49, 50, 51] mAg w w2 := F.trans (a1.1.mono (by decide) (by decide))
    have f2 : ∀ k, k < 33 → w2.2.1 16 k = w.2.1 16 k := fun k hk => (a1.2 k (Or.inl hk)).trans (f16 k hk)
    have c26 : w2.2.1 26 = w'.2.1 26 := a1.1.2.1 26 (by decide)
    refine m_agrees (yk := daysY t (exC 0) y i) (k := i + 1) ho hy hs (hS.of (F2.1 58 (by decide)) (F2.2.1 25 (by decide))) a3.2.2.2.1 (fun d hd => by rw [f2 (27 + d) (by omega)]; exact Y0.at0.2.2.2.2.2.2 d hd) (by omega) ?_ ?_
    · intro hg
      have : okD t y s (i + 1) = false := by
        show (okD t y s i && _) = false
        rw [hg, Bool.and_false]
      have := okD_f this (12 - (i + 1))
      rw [show i + 1 + (12 - (i + 1)) = 12 by omega] at this
      rw [this]
      exact wp_some ⟨F2, f2, rfl, fun z => Bool.noConfusion z⟩
    · intro hg
      have hok : okD t y s (i + 1) = true := by show (okD t y s i && _) = true; rw [hg, gO]; rfl
      by_cases e : i = 1
      · subst e
        simp (disch := omega) only [xB_s, xB2_s, xGet_s, xPut_s, xAld_s, xAst_s, xIf_t, xBool_s, l0, l1, l2, l3, l4, l5, l6, l7, l8, l9, l10, l11, l12, l13, l15, l16, l17, l19, l20, l25, l27, l30, l31, l32, l33, l39, l40, l60, l61, l99, l100, l120, l256, l999, l1999, l99999, lm, nI_add, pk_mul, nI_leI, nI_ltI, nI_eq, wuS_1, wuS_2, wuA_1, wuA_21, wuA_22, nI_m1, m1_nI, nIlt_m1, m1lt_nI, Nat.reduceEqDiff, Nat.reduceAdd, Nat.reduceMul, Nat.reduceSub, Nat.reduceLT, Nat.reduceLeDiff, reduceIte, if_true, if_false, Bool.false_eq_true, Nat.add_zero, Nat.zero_add, ne_eq, not_false_eq_true, not_true_eq_false, Nat.not_lt_zero, Nat.add_left_cancel_iff, Nat.add_right_cancel_iff, eq_self, upd_s, pk_sub, nI_pm, Nat.add_sub_cancel, List.length_cons, List.length_nil, Nat.add_eq_zero_iff, Nat.succ_ne_zero, and_false, false_and, l14, l18, l21, l23, l24, l26, l28, l29, l34, l35, l36, l41, l42, l43, l45, l47, l48, l49, l50, l51, l52, l57, l58, l59, l62, l63, l64, l96, l97, l98, l101, l102, l103, l104, l105, l106, l107, l108, l109, l110, l111, l112, l113, l114, l115, l116, l117, l118, l119, l121, l122, l127, l255, l700, l1320, l1000000, J_X10_isSeen_106, xCopies]
        refine hkk hlt _ ⟨_, rfl, F2.A (by decide), f2, a2, hok, fun _ d hd => ?_⟩
        show (wuA w2 26 _).2.1 26 d = _
        rw [wuA_21, if_pos rfl, if_pos (by omega)]
        exact a3.2.2.2.1 d hd
      · simp (disch := omega) only [xB_s, xB2_s, xGet_s, xPut_s, xAld_s, xAst_s, xIf_t, xBool_s, l0, l1, l2, l3, l4, l5, l6, l7, l8, l9, l10, l11, l12, l13, l15, l16, l17, l19, l20, l25, l27, l30, l31, l32, l33, l39, l40, l60, l61, l99, l100, l120, l256, l999, l1999, l99999, lm, nI_add, pk_mul, nI_leI, nI_ltI, nI_eq, wuS_1, wuS_2, wuA_1, wuA_21, wuA_22, nI_m1, m1_nI, nIlt_m1, m1lt_nI, Nat.reduceEqDiff, Nat.reduceAdd, Nat.reduceMul, Nat.reduceSub, Nat.reduceLT, Nat.reduceLeDiff, reduceIte, if_true, if_false, Bool.false_eq_true, Nat.add_zero, Nat.zero_add, ne_eq, not_false_eq_true, not_true_eq_false, Nat.not_lt_zero, Nat.add_left_cancel_iff, Nat.add_right_cancel_iff, eq_self, upd_s, pk_sub, nI_pm, Nat.add_sub_cancel, List.length_cons, List.length_nil, Nat.add_eq_zero_iff, Nat.succ_ne_zero, and_false, false_and, l14, l18, l21, l23, l24, l26, l28, l29, l34, l35, l36, l41, l42, l43, l45, l47, l48, l49, l50, l51, l52, l57, l58, l59, l62, l63, l64, l96, l97, l98, l101, l102, l103, l104, l105, l106, l107, l108, l109, l110, l111, l112, l113, l114, l115, l116, l117, l118, l119, l121, l122, l127, l255, l700, l1320, l1000000, J_X10_isSeen_106, show (i + 1 = 2) = False from eq_false (by omega)]
        refine hkk hlt _ ⟨_, rfl, F2, f2, a2, hok, fun h d hd => ?_⟩
        rw [c26]
        exact g2 (by omega) d hd
  · obtain rfl : i = 12 := by omega
    simp (disch := omega) only [xB_s, xB2_s, xGet_s, xPut_s, xAld_s, xAst_s, xIf_t, xBool_s, l0, l1, l2, l3, l4, l5, l6, l7, l8, l9, l10, l11, l12, l13, l15, l16, l17, l19, l20, l25, l27, l30, l31, l32, l33, l39, l40, l60, l61, l99, l100, l120, l256, l999, l1999, l99999, lm, nI_add, pk_mul, nI_leI, nI_ltI, nI_eq, wuS_1, wuS_2, wuA_1, wuA_21, wuA_22, nI_m1, m1_nI, nIlt_m1, m1lt_nI, Nat.reduceEqDiff, Nat.reduceAdd, Nat.reduceMul, Nat.reduceSub, Nat.reduceLT, Nat.reduceLeDiff, reduceIte, if_true, if_false, Bool.false_eq_true, Nat.add_zero, Nat.zero_add, ne_eq, not_false_eq_true, not_true_eq_false, Nat.not_lt_zero, Nat.add_left_cancel_iff, Nat.add_right_cancel_iff, eq_self, upd_s, pk_sub, nI_pm, Nat.add_sub_cancel, List.length_cons, List.length_nil, Nat.add_eq_zero_iff, Nat.succ_ne_zero, and_false, false_and, l14, l18, l21, l23, l24, l26, l28, l29, l34, l35, l36, l41, l42, l43, l45, l47, l48, l49, l50, l51, l52, l57, l58, l59, l62, l63, l64, l96, l97, l98, l101, l102, l103, l104, l105, l106, l107, l108, l109, l110, l111, l112, l113, l114, l115, l116, l117, l118, l119, l121, l122, l127, l255, l700, l1320, l1000000]
    rw [gO]
    exact wp_some ⟨F, f16, rfl, fun _ => g2 (by omega)⟩
/-- a guess: g = 61 p + h -/
def gU (t : Tn) (y : Yw) (s : Sn) (g : Nat) : Bool := decide (g % 61 ≠ tH t (g / 61)) && okD (tG t (g / 61) (g % 61)) y s 12
def bvG (t : Tn) (y : Yw) (g d : Nat) : Nat := behS (tG t (g / 61) (g % 61)) (exC 0) (daysY (tG t (g / 61) (g % 61)) (exC 0) y 1) d
theorem m_isGuess {t : Tn} {y : Yw} {s : Sn} {o : wO} {wx w : wS} {g : Nat} (h : PQ t y o wx w) (hs : sOk t s) (hS : SM s w) (h0 : w.1 0 = nI 0) (hg : g < 61 * tP t) : wpO (L_X10_isGuess (nI g) w) (fun r => QM w r.2 ∧ r.2.1 0 = nI 0 ∧ r.1 = nI (gU t y s g).toNat ∧ (gU t y s g = true → ∀ d, d < tD t → r.2.2.1 26 d = nI (bvG t y g d)) ∧ r.2.2.1 27 = w.2.1 27) := by
  have em := h.em
  obtain ⟨⟨ho, hy, hD⟩, _, T, Y, _⟩ := h
  have b1 := ho.1
  have hp : g / 61 < tP t := by omega
  have ed : xDiv (nI g) (nI 61) = some (nI (g / 61)) := by
    unfold xDiv
    rw [if_neg (by decide), pk_div (by omega) (by omega) (by omega)]
  have er := m_remP (j := g) (n := 61) (by omega) (by omega) (by omega)
  have hH := ho.2.2.2.2.1 (g / 61)
  have eh := T.2.2.2.2.1 (g / 61) hp
  unfold L_X10_isGuess
  simp (disch := omega) only [xB_s, xB2_s, xGet_s, xPut_s, xAld_s, xAst_s, xIf_t, xBool_s, l0, l1, l2, l3, l4, l5, l6, l7, l8, l9, l10, l11, l12, l13, l15, l16, l17, l19, l20, l25, l27, l30, l31, l32, l33, l39, l40, l60, l61, l99, l100, l120, l256, l999, l1999, l99999, lm, nI_add, pk_mul, nI_leI, nI_ltI, nI_eq, wuS_1, wuS_2, wuA_1, wuA_21, wuA_22, nI_m1, m1_nI, nIlt_m1, m1lt_nI, Nat.reduceEqDiff, Nat.reduceAdd, Nat.reduceMul, Nat.reduceSub, Nat.reduceLT, Nat.reduceLeDiff, reduceIte, if_true, if_false, Bool.false_eq_true, Nat.add_zero, Nat.zero_add, ne_eq, not_false_eq_true, not_true_eq_false, Nat.not_lt_zero, Nat.add_left_cancel_iff, Nat.add_right_cancel_iff, eq_self, upd_s, pk_sub, nI_pm, Nat.add_sub_cancel, List.length_cons, List.length_nil, Nat.add_eq_zero_iff, Nat.succ_ne_zero, and_false, false_and, l14, l18, l21, l23, l24, l26, l28, l29, l34, l35, l36, l41, l42, l43, l45, l47, l48, l49, l50, l51, l52, l57, l58, l59, l62, l63, l64, l96, l97, l98, l101, l102, l103, l104, l105, l106, l107, l108, l109, l110, l111, l112, l113, l114, l115, l116, l117, l118, l119, l121, l122, l127, l255, l700, l1320, l1000000, ed, er, eh]
  by_cases e : g % 61 = tH t (g / 61)
  · rw [if_pos e]
    have : gU t y s g = false := by unfold gU; rw [decide_eq_false (fun z => z e)]; rfl
    rw [this]
    exact wp_some ⟨QM.refl, h0, rfl, fun z => Bool.noConfusion z, rfl⟩
  · rw [if_neg e]
    have hG : gU t y s g = okD (tG t (g / 61) (g % 61)) y s 12 := by unfold gU; rw [decide_eq_true e]; rfl
    have T5 : TM (tG t (g / 61) (g % 61)) (wuA w 2 (upd (w.2.1 2) (g / 61) (nI (g % 61)))) := by
      obtain ⟨t1, t2, t3, t4, t5, t6, t7, t8, t9⟩ := T
      refine ⟨t1, t2, t3, t4, fun q hq => ?_, t6, t7, t8, t9⟩
      rw [wuA_21, if_pos rfl, upd_s]
      show _ = nI (fu (tH t) (g / 61) (g % 61) q)
      rw [fu_s]
      by_cases z : q = g / 61
      · rw [if_pos z, if_pos z]
      · rw [if_neg z, if_neg z]; exact t5 q hq
    have X5 : EM (exC 0) (wuA w 2 (upd (w.2.1 2) (g / 61) (nI (g % 61)))) := em.of (fun _ _ _ => rfl)
    refine wp_B (m_tries (y := y) (w := wuA w 2 (upd (w.2.1 2) (g / 61) (nI (g % 61)))) Y) ?_
    rintro w6 ⟨c1, c2, c3, c4⟩
    have k16 : ∀ k, k < 33 → w6.2.1 16 k = w.2.1 16 k := fun k hk => c1.2 k (Or.inl hk)
    refine wp_B2 (m_isSeen (y := y) (s := s) (tG_ok ho (by omega)) hy hD hs (hS.of (c2 58) (by rw [c3 25 (by decide)]; rfl)) (c1.T T5) (c1.X X5) (Y.of (fun k _ hk => k16 k (by omega))) c4) ?_
    rintro v w8 ⟨d1, d2, d3, d4⟩
    have d3 : v = nI (okD (tG t (g / 61) (g % 61)) y s 12).toNat := d3
    have hb : (okD (tG t (g / 61) (g % 61)) y s 12).toNat ≤ 1 := by cases okD (tG t (g / 61) (g % 61)) y s 12 <;> decide
    simp (disch := omega) only [xB_s, xB2_s, xGet_s, xPut_s, xAld_s, xAst_s, xIf_t, xBool_s, l0, l1, l2, l3, l4, l5, l6, l7, l8, l9, l10, l11, l12, l13, l15, l16, l17, l19, l20, l25, l27, l30, l31, l32, l33, l39, l40, l60, l61, l99, l100, l120, l256, l999, l1999, l99999, lm, nI_add, pk_mul, nI_leI, nI_ltI, nI_eq, wuS_1, wuS_2, wuA_1, wuA_21, wuA_22, nI_m1, m1_nI, nIlt_m1, m1lt_nI, Nat.reduceEqDiff, Nat.reduceAdd, Nat.reduceMul, Nat.reduceSub, Nat.reduceLT, Nat.reduceLeDiff, reduceIte, if_true, if_false, Bool.false_eq_true, Nat.add_zero, Nat.zero_add, ne_eq, not_false_eq_true, not_true_eq_false, Nat.not_lt_zero, Nat.add_left_cancel_iff, Nat.add_right_cancel_iff, eq_self, upd_s, pk_sub, nI_pm, Nat.add_sub_cancel, List.length_cons, List.length_nil, Nat.add_eq_zero_iff, Nat.succ_ne_zero, and_false, false_and, l14, l18, l21, l23, l24, l26, l28, l29, l34, l35, l36, l41, l42, l43, l45, l47, l48, l49, l50, l51, l52, l57, l58, l59, l62, l63, l64, l96, l97, l98, l101, l102, l103, l104, l105, l106, l107, l108, l109, l110, l111, l112, l113, l114, l115, l116, l117, l118, l119, l121, l122, l127, l255, l700, l1320, l1000000, d3]
    have e2 : w8.2.1 2 = upd (w.2.1 2) (g / 61) (nI (g % 61)) := by
      rw [d1.2.1 2 (by decide), c3 2 (by decide), wuA_21, if_pos rfl]
    have e3 : upd (w8.2.1 2) (g / 61) (nI (tH t (g / 61))) = w.2.1 2 := by
      rw [e2]
      funext q
      rw [upd_s, upd_s]
      by_cases z : q = g / 61
      · rw [if_pos z, z, eh]
      · rw [if_neg z, if_neg z]
    rw [hG]
    refine wp_some ⟨⟨⟨fun k hk => ?_, fun c hc => ?_, ?_⟩, fun k hk => ?_, Or.inl ?_⟩, ?_, rfl, fun z d hd => ?_, ?_⟩
    · show w8.1 k = w.1 k
      rw [d1.1 k (by simp at hk ⊢; omega), c2 k]; rfl
    · show (wuA w8 2 _).2.1 c = w.2.1 c
      rw [wuA_21]
      by_cases z : c = 2
      · rw [if_pos z, e3, z]
      · rw [if_neg z, d1.2.1 c (by simp at hc ⊢; omega), c3 c (by simp at hc; omega), wuA_21, if_neg z]
    · show w8.2.2 = w.2.2
      rw [d1.2.2, c1.1.2.2]; rfl
    · show (wuA w8 2 _).2.1 16 k = w.2.1 16 k
      rw [wuA_21, if_neg (by decide), d2 k hk]; exact k16 k hk
    · show w8.1 55 = w.1 55
      rw [d1.1 55 (by decide), c2 55]; rfl
    · show w8.1 0 = nI 0
      rw [d1.1 0 (by decide), c2 0]; exact h0
    · show (wuA w8 2 _).2.1 26 d = _
      rw [wuA_21, if_neg (by decide)]
      exact d4 z d hd
    · show (wuA w8 2 _).2.1 27 = _
      rw [wuA_21, if_neg (by decide), d1.2.1 27 (by decide), c3 27 (by decide)]; rfl
end
