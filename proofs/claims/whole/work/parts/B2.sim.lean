section
theorem kw_no {b : Nat → Nat} {n s : Nat} (h : ¬ kd b n s = 97) : kw b n s = none := by
  cases e : kw b n s with
  | none => rfl
  | some k => exact absurd (kwA_is e).2.1 h
theorem opnd_eq (f : Nat) (v : Int32) (ke : wS → Option wS) (w : wS) : (xB (L_X10_operand v w) fun w' => J_X10_expression_327 (fun x2 w => xLoop eB f (x2, w)) ke (nI 1) w') = eOP 5000 v f w := rfl
theorem MS.n7 {b : Nat → Nat} {n mn m : Nat} {w0 : wS} {s d : Nat} {C T : List Nat} {tb : Nat → Nat} {w : wS} (h : MS b n mn m w0 s C T d tb w) : s ≤ n ∧ n ≤ 700 := ⟨h.1.2.1, h.1.1.1⟩
theorem MS.tl {b : Nat → Nat} {n mn m : Nat} {w0 : wS} {s d : Nat} {C T D : List Nat} {tb : Nat → Nat} {w : wS} (h : MS b n mn m w0 s C (D ++ T) d tb w) : T.length ≤ 720 := by
  have := h.2.2.2.1.2.2.1
  rw [List.length_append] at this
  omega

theorem st_M {b : Nat → Nat} {n mn m : Nat} {w0 : wS} {s d f a : Nat} {C T D : List Nat} {tb : Nat → Nat} {w : wS} {Q : wS → Prop} (h : MS b n mn m w0 s C (D ++ T) d tb w) (hD : ∀ x, x ∈ D → x < 14 ∧ 6 ≤ str x) (hT : eTT 6 T) (ho : opM b n s = some a) (hb : m + C.length + D.length ≤ 1380) (hTl : T.length ≤ 700) (hk : ∀ w2, MS b n mn m w0 (nxT b n s) (C ++ D) ((4 + a) :: T) d tb w2 → wpO (eO2 4999 (nI 0) f w2) Q) : wpO (eLP (f + 1) w) Q := by
  have h1 := h.1
  have eg := m_good h.2.1.1
  have ek := m_known h1
  have hq : (kd b n s = 42 ∧ a = 6) ∨ (kd b n s = 47 ∧ a = 7) := by
    unfold opM at ho
    by_cases q1 : kd b n s = 42
    · rw [if_pos q1] at ho; exact Or.inl ⟨q1, (Option.some.inj ho).symm⟩
    · rw [if_neg q1] at ho
      by_cases q2 : kd b n s = 47
      · rw [if_pos q2] at ho; exact Or.inr ⟨q2, (Option.some.inj ho).symm⟩
      · rw [if_neg q2] at ho; cases ho
  rw [kw_no (by omega)] at ek
  have s60 := m_isSign (c := 60) h1 (by decide) (by omega)
  have s61 := m_isSign (c := 61) h1 (by decide) (by omega)
  have s43 := m_isSign (c := 43) h1 (by decide) (by omega)
  have s45 := m_isSign (c := 45) h1 (by decide) (by omega)
  have s42 := m_isSign (c := 42) h1 (by decide) (by omega)
  have s47 := m_isSign (c := 47) h1 (by decide) (by omega)
  have key : wpO (J_X10_expression_264 (fun x2 w => xLoop eB f (x2, w)) (fun w83 => J_X10_expression_330 w83) (nI 1) w) Q := by
    unfold J_X10_expression_264 J_X10_expression_287
    rw [l6]
    refine wp_B (m_drops hT (by omega) h hD (by omega)) ?_
    intro w1 g1
    have g1s := m_isSign (c := 42) g1.1 (by decide) (by omega)
    have hgo : wpO (xB (L_X10_waitsFor (nI (4 + a)) w1) fun w54 => xB (L_X10_goes w54) fun w17 => xB (L_X10_operand (nI 0) w17) fun w18 => J_X10_expression_327 (fun x2 w => xLoop eB f (x2, w)) (fun w83 => J_X10_expression_330 w83) (nI 1) w18) Q := by
      rw [m_waits g1.2.2.2.1.1 (by omega), xB_s]
      have g2 := g1.push (x := 4 + a) (by omega) (by omega)
      refine wp_B (m_goesT g2.1) ?_
      rintro w3 ⟨F3, T3⟩
      have g3 := g2.to F3 T3
      rw [opnd_eq, show (5000 : Nat) = 4999 + 1 from rfl, eOP_0 g3.2.1.1]
      exact hk w3 g3
    rcases hq with ⟨q, rfl⟩ | ⟨q, rfl⟩
    · simp (disch := omega) only [xB_s, xB2_s, xGet_s, xPut_s, xAld_s, xAst_s, xIf_t, xBool_s, l0, l1, l2, l3, l4, l5, l6, l7, l8, l9, l10, l11, l12, l13, l15, l16, l17, l19, l20, l25, l27, l30, l31, l32, l33, l39, l40, l60, l61, l99, l100, l120, l256, l999, l1999, l99999, lm, nI_add, pk_mul, nI_leI, nI_ltI, nI_eq, wuS_1, wuS_2, wuA_1, wuA_21, wuA_22, nI_m1, m1_nI, nIlt_m1, m1lt_nI, Nat.reduceEqDiff, Nat.reduceAdd, Nat.reduceMul, Nat.reduceSub, Nat.reduceLT, Nat.reduceLeDiff, reduceIte, if_true, if_false, Bool.false_eq_true, Nat.add_zero, Nat.zero_add, ne_eq, not_false_eq_true, not_true_eq_false, Nat.not_lt_zero, Nat.add_left_cancel_iff, Nat.add_right_cancel_iff, eq_self, upd_s, pk_sub, nI_pm, Nat.add_sub_cancel, List.length_cons, List.length_nil, Nat.add_eq_zero_iff, Nat.succ_ne_zero, and_false, false_and, l14, l18, l21, l23, l24, l26, l28, l29, l34, l35, l36, l41, l42, l43, l45, l47, l48, l49, l50, l51, l52, l57, l58, l59, l62, l63, l64, l96, l97, l98, l101, l102, l103, l104, l105, l106, l107, l108, l109, l110, l111, l112, l113, l114, l115, l116, l117, l118, l119, l121, l122, l127, l255, l700, l1320, l1000000, g1s, q]
      exact hgo
    · simp (disch := omega) only [xB_s, xB2_s, xGet_s, xPut_s, xAld_s, xAst_s, xIf_t, xBool_s, l0, l1, l2, l3, l4, l5, l6, l7, l8, l9, l10, l11, l12, l13, l15, l16, l17, l19, l20, l25, l27, l30, l31, l32, l33, l39, l40, l60, l61, l99, l100, l120, l256, l999, l1999, l99999, lm, nI_add, pk_mul, nI_leI, nI_ltI, nI_eq, wuS_1, wuS_2, wuA_1, wuA_21, wuA_22, nI_m1, m1_nI, nIlt_m1, m1lt_nI, Nat.reduceEqDiff, Nat.reduceAdd, Nat.reduceMul, Nat.reduceSub, Nat.reduceLT, Nat.reduceLeDiff, reduceIte, if_true, if_false, Bool.false_eq_true, Nat.add_zero, Nat.zero_add, ne_eq, not_false_eq_true, not_true_eq_false, Nat.not_lt_zero, Nat.add_left_cancel_iff, Nat.add_right_cancel_iff, eq_self, upd_s, pk_sub, nI_pm, Nat.add_sub_cancel, List.length_cons, List.length_nil, Nat.add_eq_zero_iff, Nat.succ_ne_zero, and_false, false_and, l14, l18, l21, l23, l24, l26, l28, l29, l34, l35, l36, l41, l42, l43, l45, l47, l48, l49, l50, l51, l52, l57, l58, l59, l62, l63, l64, l96, l97, l98, l101, l102, l103, l104, l105, l106, l107, l108, l109, l110, l111, l112, l113, l114, l115, l116, l117, l118, l119, l121, l122, l127, l255, l700, l1320, l1000000, g1s, q]
      exact hgo
  rw [eLP_s]
  unfold B_X10_expression_34
  rcases hq with ⟨q, _⟩ | ⟨q, _⟩
  · rw [if_neg (by omega)] at s60 s61
    simp (disch := omega) only [xB_s, xB2_s, xGet_s, xPut_s, xAld_s, xAst_s, xIf_t, xBool_s, l0, l1, l2, l3, l4, l5, l6, l7, l8, l9, l10, l11, l12, l13, l15, l16, l17, l19, l20, l25, l27, l30, l31, l32, l33, l39, l40, l60, l61, l99, l100, l120, l256, l999, l1999, l99999, lm, nI_add, pk_mul, nI_leI, nI_ltI, nI_eq, wuS_1, wuS_2, wuA_1, wuA_21, wuA_22, nI_m1, m1_nI, nIlt_m1, m1lt_nI, Nat.reduceEqDiff, Nat.reduceAdd, Nat.reduceMul, Nat.reduceSub, Nat.reduceLT, Nat.reduceLeDiff, reduceIte, if_true, if_false, Bool.false_eq_true, Nat.add_zero, Nat.zero_add, ne_eq, not_false_eq_true, not_true_eq_false, Nat.not_lt_zero, Nat.add_left_cancel_iff, Nat.add_right_cancel_iff, eq_self, upd_s, pk_sub, nI_pm, Nat.add_sub_cancel, List.length_cons, List.length_nil, Nat.add_eq_zero_iff, Nat.succ_ne_zero, and_false, false_and, l14, l18, l21, l23, l24, l26, l28, l29, l34, l35, l36, l41, l42, l43, l45, l47, l48, l49, l50, l51, l52, l57, l58, l59, l62, l63, l64, l96, l97, l98, l101, l102, l103, l104, l105, l106, l107, l108, l109, l110, l111, l112, l113, l114, l115, l116, l117, l118, l119, l121, l122, l127, l255, l700, l1320, l1000000, eg, ek, oI_n, s60, s61]
    unfold J_X10_expression_191
    rw [if_neg (by omega)] at s43 s45
    rw [if_pos q] at s42
    simp (disch := omega) only [xB_s, xB2_s, xGet_s, xPut_s, xAld_s, xAst_s, xIf_t, xBool_s, l0, l1, l2, l3, l4, l5, l6, l7, l8, l9, l10, l11, l12, l13, l15, l16, l17, l19, l20, l25, l27, l30, l31, l32, l33, l39, l40, l60, l61, l99, l100, l120, l256, l999, l1999, l99999, lm, nI_add, pk_mul, nI_leI, nI_ltI, nI_eq, wuS_1, wuS_2, wuA_1, wuA_21, wuA_22, nI_m1, m1_nI, nIlt_m1, m1lt_nI, Nat.reduceEqDiff, Nat.reduceAdd, Nat.reduceMul, Nat.reduceSub, Nat.reduceLT, Nat.reduceLeDiff, reduceIte, if_true, if_false, Bool.false_eq_true, Nat.add_zero, Nat.zero_add, ne_eq, not_false_eq_true, not_true_eq_false, Nat.not_lt_zero, Nat.add_left_cancel_iff, Nat.add_right_cancel_iff, eq_self, upd_s, pk_sub, nI_pm, Nat.add_sub_cancel, List.length_cons, List.length_nil, Nat.add_eq_zero_iff, Nat.succ_ne_zero, and_false, false_and, l14, l18, l21, l23, l24, l26, l28, l29, l34, l35, l36, l41, l42, l43, l45, l47, l48, l49, l50, l51, l52, l57, l58, l59, l62, l63, l64, l96, l97, l98, l101, l102, l103, l104, l105, l106, l107, l108, l109, l110, l111, l112, l113, l114, l115, l116, l117, l118, l119, l121, l122, l127, l255, l700, l1320, l1000000, s43, s45, s42]
    exact key
  · rw [if_neg (by omega)] at s60 s61
    simp (disch := omega) only [xB_s, xB2_s, xGet_s, xPut_s, xAld_s, xAst_s, xIf_t, xBool_s, l0, l1, l2, l3, l4, l5, l6, l7, l8, l9, l10, l11, l12, l13, l15, l16, l17, l19, l20, l25, l27, l30, l31, l32, l33, l39, l40, l60, l61, l99, l100, l120, l256, l999, l1999, l99999, lm, nI_add, pk_mul, nI_leI, nI_ltI, nI_eq, wuS_1, wuS_2, wuA_1, wuA_21, wuA_22, nI_m1, m1_nI, nIlt_m1, m1lt_nI, Nat.reduceEqDiff, Nat.reduceAdd, Nat.reduceMul, Nat.reduceSub, Nat.reduceLT, Nat.reduceLeDiff, reduceIte, if_true, if_false, Bool.false_eq_true, Nat.add_zero, Nat.zero_add, ne_eq, not_false_eq_true, not_true_eq_false, Nat.not_lt_zero, Nat.add_left_cancel_iff, Nat.add_right_cancel_iff, eq_self, upd_s, pk_sub, nI_pm, Nat.add_sub_cancel, List.length_cons, List.length_nil, Nat.add_eq_zero_iff, Nat.succ_ne_zero, and_false, false_and, l14, l18, l21, l23, l24, l26, l28, l29, l34, l35, l36, l41, l42, l43, l45, l47, l48, l49, l50, l51, l52, l57, l58, l59, l62, l63, l64, l96, l97, l98, l101, l102, l103, l104, l105, l106, l107, l108, l109, l110, l111, l112, l113, l114, l115, l116, l117, l118, l119, l121, l122, l127, l255, l700, l1320, l1000000, eg, ek, oI_n, s60, s61]
    unfold J_X10_expression_191
    rw [if_neg (by omega)] at s43 s45 s42
    rw [if_pos q] at s47
    simp (disch := omega) only [xB_s, xB2_s, xGet_s, xPut_s, xAld_s, xAst_s, xIf_t, xBool_s, l0, l1, l2, l3, l4, l5, l6, l7, l8, l9, l10, l11, l12, l13, l15, l16, l17, l19, l20, l25, l27, l30, l31, l32, l33, l39, l40, l60, l61, l99, l100, l120, l256, l999, l1999, l99999, lm, nI_add, pk_mul, nI_leI, nI_ltI, nI_eq, wuS_1, wuS_2, wuA_1, wuA_21, wuA_22, nI_m1, m1_nI, nIlt_m1, m1lt_nI, Nat.reduceEqDiff, Nat.reduceAdd, Nat.reduceMul, Nat.reduceSub, Nat.reduceLT, Nat.reduceLeDiff, reduceIte, if_true, if_false, Bool.false_eq_true, Nat.add_zero, Nat.zero_add, ne_eq, not_false_eq_true, not_true_eq_false, Nat.not_lt_zero, Nat.add_left_cancel_iff, Nat.add_right_cancel_iff, eq_self, upd_s, pk_sub, nI_pm, Nat.add_sub_cancel, List.length_cons, List.length_nil, Nat.add_eq_zero_iff, Nat.succ_ne_zero, and_false, false_and, l14, l18, l21, l23, l24, l26, l28, l29, l34, l35, l36, l41, l42, l43, l45, l47, l48, l49, l50, l51, l52, l57, l58, l59, l62, l63, l64, l96, l97, l98, l101, l102, l103, l104, l105, l106, l107, l108, l109, l110, l111, l112, l113, l114, l115, l116, l117, l118, l119, l121, l122, l127, l255, l700, l1320, l1000000, s43, s45, s42, s47]
    exact key
theorem st_S {b : Nat → Nat} {n mn m : Nat} {w0 : wS} {s d f a : Nat} {C T D : List Nat} {tb : Nat → Nat} {w : wS} {Q : wS → Prop} (h : MS b n mn m w0 s C (D ++ T) d tb w) (hD : ∀ x, x ∈ D → x < 14 ∧ 5 ≤ str x) (hT : eTT 5 T) (ho : opS b n s = some a) (hb : m + C.length + D.length ≤ 1380) (hTl : T.length ≤ 700) (hk : ∀ w2, MS b n mn m w0 (nxT b n s) (C ++ D) ((4 + a) :: T) d tb w2 → wpO (eO2 4999 (nI 0) f w2) Q) : wpO (eLP (f + 1) w) Q := by
  have h1 := h.1
  have eg := m_good h.2.1.1
  have ek := m_known h1
  have hq : (kd b n s = 43 ∧ a = 4) ∨ (kd b n s = 45 ∧ a = 5) := by
    unfold opS at ho
    by_cases q1 : kd b n s = 43
    · rw [if_pos q1] at ho; exact Or.inl ⟨q1, (Option.some.inj ho).symm⟩
    · rw [if_neg q1] at ho
      by_cases q2 : kd b n s = 45
      · rw [if_pos q2] at ho; exact Or.inr ⟨q2, (Option.some.inj ho).symm⟩
      · rw [if_neg q2] at ho; cases ho
  rw [kw_no (by omega)] at ek
  have s60 := m_isSign (c := 60) h1 (by decide) (by omega)
  have s61 := m_isSign (c := 61) h1 (by decide) (by omega)
  have s43 := m_isSign (c := 43) h1 (by decide) (by omega)
  have s45 := m_isSign (c := 45) h1 (by decide) (by omega)
  have s42 := m_isSign (c := 42) h1 (by decide) (by omega)
  have s47 := m_isSign (c := 47) h1 (by decide) (by omega)
  have key : wpO (J_X10_expression_209 (fun x2 w => xLoop eB f (x2, w)) (fun w83 => J_X10_expression_330 w83) (nI 1) w) Q := by
    unfold J_X10_expression_209 J_X10_expression_231
    rw [l5]
    refine wp_B (m_drops hT (by omega) h hD (by omega)) ?_
    intro w1 g1
    have g1s := m_isSign (c := 43) g1.1 (by decide) (by omega)
    have hgo : wpO (xB (L_X10_waitsFor (nI (4 + a)) w1) fun w54 => xB (L_X10_goes w54) fun w17 => xB (L_X10_operand (nI 0) w17) fun w18 => J_X10_expression_327 (fun x2 w => xLoop eB f (x2, w)) (fun w83 => J_X10_expression_330 w83) (nI 1) w18) Q := by
      rw [m_waits g1.2.2.2.1.1 (by omega), xB_s]
      have g2 := g1.push (x := 4 + a) (by omega) (by omega)
      refine wp_B (m_goesT g2.1) ?_
      rintro w3 ⟨F3, T3⟩
      have g3 := g2.to F3 T3
      rw [opnd_eq, show (5000 : Nat) = 4999 + 1 from rfl, eOP_0 g3.2.1.1]
      exact hk w3 g3
    rcases hq with ⟨q, rfl⟩ | ⟨q, rfl⟩
    · simp (disch := omega) only [xB_s, xB2_s, xGet_s, xPut_s, xAld_s, xAst_s, xIf_t, xBool_s, l0, l1, l2, l3, l4, l5, l6, l7, l8, l9, l10, l11, l12, l13, l15, l16, l17, l19, l20, l25, l27, l30, l31, l32, l33, l39, l40, l60, l61, l99, l100, l120, l256, l999, l1999, l99999, lm, nI_add, pk_mul, nI_leI, nI_ltI, nI_eq, wuS_1, wuS_2, wuA_1, wuA_21, wuA_22, nI_m1, m1_nI, nIlt_m1, m1lt_nI, Nat.reduceEqDiff, Nat.reduceAdd, Nat.reduceMul, Nat.reduceSub, Nat.reduceLT, Nat.reduceLeDiff, reduceIte, if_true, if_false, Bool.false_eq_true, Nat.add_zero, Nat.zero_add, ne_eq, not_false_eq_true, not_true_eq_false, Nat.not_lt_zero, Nat.add_left_cancel_iff, Nat.add_right_cancel_iff, eq_self, upd_s, pk_sub, nI_pm, Nat.add_sub_cancel, List.length_cons, List.length_nil, Nat.add_eq_zero_iff, Nat.succ_ne_zero, and_false, false_and, l14, l18, l21, l23, l24, l26, l28, l29, l34, l35, l36, l41, l42, l43, l45, l47, l48, l49, l50, l51, l52, l57, l58, l59, l62, l63, l64, l96, l97, l98, l101, l102, l103, l104, l105, l106, l107, l108, l109, l110, l111, l112, l113, l114, l115, l116, l117, l118, l119, l121, l122, l127, l255, l700, l1320, l1000000, g1s, q]
      exact hgo
    · simp (disch := omega) only [xB_s, xB2_s, xGet_s, xPut_s, xAld_s, xAst_s, xIf_t, xBool_s, l0, l1, l2, l3, l4, l5, l6, l7, l8, l9, l10, l11, l12, l13, l15, l16, l17, l19, l20, l25, l27, l30, l31, l32, l33, l39, l40, l60, l61, l99, l100, l120, l256, l999, l1999, l99999, lm, nI_add, pk_mul, nI_leI, nI_ltI, nI_eq, wuS_1, wuS_2, wuA_1, wuA_21, wuA_22, nI_m1, m1_nI, nIlt_m1, m1lt_nI, Nat.reduceEqDiff, Nat.reduceAdd, Nat.reduceMul, Nat.reduceSub, Nat.reduceLT, Nat.reduceLeDiff, reduceIte, if_true, if_false, Bool.false_eq_true, Nat.add_zero, Nat.zero_add, ne_eq, not_false_eq_true, not_true_eq_false, Nat.not_lt_zero, Nat.add_left_cancel_iff, Nat.add_right_cancel_iff, eq_self, upd_s, pk_sub, nI_pm, Nat.add_sub_cancel, List.length_cons, List.length_nil, Nat.add_eq_zero_iff, Nat.succ_ne_zero, and_false, false_and, l14, l18, l21, l23, l24, l26, l28, l29, l34, l35, l36, l41, l42, l43, l45, l47, l48, l49, l50, l51, l52, l57, l58, l59, l62, l63, l64, l96, l97, l98, l101, l102, l103, l104, l105, l106, l107, l108, l109, l110, l111, l112, l113, l114, l115, l116, l117, l118, l119, l121, l122, l127, l255, l700, l1320, l1000000, g1s, q]
      exact hgo
  rw [eLP_s]
  unfold B_X10_expression_34
  rcases hq with ⟨q, _⟩ | ⟨q, _⟩
  · rw [if_neg (by omega)] at s60 s61
    simp (disch := omega) only [xB_s, xB2_s, xGet_s, xPut_s, xAld_s, xAst_s, xIf_t, xBool_s, l0, l1, l2, l3, l4, l5, l6, l7, l8, l9, l10, l11, l12, l13, l15, l16, l17, l19, l20, l25, l27, l30, l31, l32, l33, l39, l40, l60, l61, l99, l100, l120, l256, l999, l1999, l99999, lm, nI_add, pk_mul, nI_leI, nI_ltI, nI_eq, wuS_1, wuS_2, wuA_1, wuA_21, wuA_22, nI_m1, m1_nI, nIlt_m1, m1lt_nI, Nat.reduceEqDiff, Nat.reduceAdd, Nat.reduceMul, Nat.reduceSub, Nat.reduceLT, Nat.reduceLeDiff, reduceIte, if_true, if_false, Bool.false_eq_true, Nat.add_zero, Nat.zero_add, ne_eq, not_false_eq_true, not_true_eq_false, Nat.not_lt_zero, Nat.add_left_cancel_iff, Nat.add_right_cancel_iff, eq_self, upd_s, pk_sub, nI_pm, Nat.add_sub_cancel, List.length_cons, List.length_nil, Nat.add_eq_zero_iff, Nat.succ_ne_zero, and_false, false_and, l14, l18, l21, l23, l24, l26, l28, l29, l34, l35, l36, l41, l42, l43, l45, l47, l48, l49, l50, l51, l52, l57, l58, l59, l62, l63, l64, l96, l97, l98, l101, l102, l103, l104, l105, l106, l107, l108, l109, l110, l111, l112, l113, l114, l115, l116, l117, l118, l119, l121, l122, l127, l255, l700, l1320, l1000000, eg, ek, oI_n, s60, s61]
    unfold J_X10_expression_191
    rw [if_pos q] at s43
    simp (disch := omega) only [xB_s, xB2_s, xGet_s, xPut_s, xAld_s, xAst_s, xIf_t, xBool_s, l0, l1, l2, l3, l4, l5, l6, l7, l8, l9, l10, l11, l12, l13, l15, l16, l17, l19, l20, l25, l27, l30, l31, l32, l33, l39, l40, l60, l61, l99, l100, l120, l256, l999, l1999, l99999, lm, nI_add, pk_mul, nI_leI, nI_ltI, nI_eq, wuS_1, wuS_2, wuA_1, wuA_21, wuA_22, nI_m1, m1_nI, nIlt_m1, m1lt_nI, Nat.reduceEqDiff, Nat.reduceAdd, Nat.reduceMul, Nat.reduceSub, Nat.reduceLT, Nat.reduceLeDiff, reduceIte, if_true, if_false, Bool.false_eq_true, Nat.add_zero, Nat.zero_add, ne_eq, not_false_eq_true, not_true_eq_false, Nat.not_lt_zero, Nat.add_left_cancel_iff, Nat.add_right_cancel_iff, eq_self, upd_s, pk_sub, nI_pm, Nat.add_sub_cancel, List.length_cons, List.length_nil, Nat.add_eq_zero_iff, Nat.succ_ne_zero, and_false, false_and, l14, l18, l21, l23, l24, l26, l28, l29, l34, l35, l36, l41, l42, l43, l45, l47, l48, l49, l50, l51, l52, l57, l58, l59, l62, l63, l64, l96, l97, l98, l101, l102, l103, l104, l105, l106, l107, l108, l109, l110, l111, l112, l113, l114, l115, l116, l117, l118, l119, l121, l122, l127, l255, l700, l1320, l1000000, s43]
    exact key
  · rw [if_neg (by omega)] at s60 s61
    simp (disch := omega) only [xB_s, xB2_s, xGet_s, xPut_s, xAld_s, xAst_s, xIf_t, xBool_s, l0, l1, l2, l3, l4, l5, l6, l7, l8, l9, l10, l11, l12, l13, l15, l16, l17, l19, l20, l25, l27, l30, l31, l32, l33, l39, l40, l60, l61, l99, l100, l120, l256, l999, l1999, l99999, lm, nI_add, pk_mul, nI_leI, nI_ltI, nI_eq, wuS_1, wuS_2, wuA_1, wuA_21, wuA_22, nI_m1, m1_nI, nIlt_m1, m1lt_nI, Nat.reduceEqDiff, Nat.reduceAdd, Nat.reduceMul, Nat.reduceSub, Nat.reduceLT, Nat.reduceLeDiff, reduceIte, if_true, if_false, Bool.false_eq_true, Nat.add_zero, Nat.zero_add, ne_eq, not_false_eq_true, not_true_eq_false, Nat.not_lt_zero, Nat.add_left_cancel_iff, Nat.add_right_cancel_iff, eq_self, upd_s, pk_sub, nI_pm, Nat.add_sub_cancel, List.length_cons, List.length_nil, Nat.add_eq_zero_iff, Nat.succ_ne_zero, and_false, false_and, l14, l18, l21, l23, l24, l26, l28, l29, l34, l35, l36, l41, l42, l43, l45, l47, l48, l49, l50, l51, l52, l57, l58, l59, l62, l63, l64, l96, l97, l98, l101, l102, l103, l104, l105, l106, l107, l108, l109, l110, l111, l112, l113, l114, l115, l116, l117, l118, l119, l121, l122, l127, l255, l700, l1320, l1000000, eg, ek, oI_n, s60, s61]
    unfold J_X10_expression_191
    rw [if_neg (by omega)] at s43
    rw [if_pos q] at s45
    simp (disch := omega) only [xB_s, xB2_s, xGet_s, xPut_s, xAld_s, xAst_s, xIf_t, xBool_s, l0, l1, l2, l3, l4, l5, l6, l7, l8, l9, l10, l11, l12, l13, l15, l16, l17, l19, l20, l25, l27, l30, l31, l32, l33, l39, l40, l60, l61, l99, l100, l120, l256, l999, l1999, l99999, lm, nI_add, pk_mul, nI_leI, nI_ltI, nI_eq, wuS_1, wuS_2, wuA_1, wuA_21, wuA_22, nI_m1, m1_nI, nIlt_m1, m1lt_nI, Nat.reduceEqDiff, Nat.reduceAdd, Nat.reduceMul, Nat.reduceSub, Nat.reduceLT, Nat.reduceLeDiff, reduceIte, if_true, if_false, Bool.false_eq_true, Nat.add_zero, Nat.zero_add, ne_eq, not_false_eq_true, not_true_eq_false, Nat.not_lt_zero, Nat.add_left_cancel_iff, Nat.add_right_cancel_iff, eq_self, upd_s, pk_sub, nI_pm, Nat.add_sub_cancel, List.length_cons, List.length_nil, Nat.add_eq_zero_iff, Nat.succ_ne_zero, and_false, false_and, l14, l18, l21, l23, l24, l26, l28, l29, l34, l35, l36, l41, l42, l43, l45, l47, l48, l49, l50, l51, l52, l57, l58, l59, l62, l63, l64, l96, l97, l98, l101, l102, l103, l104, l105, l106, l107, l108, l109, l110, l111, l112, l113, l114, l115, l116, l117, l118, l119, l121, l122, l127, l255, l700, l1320, l1000000, s43, s45]
    exact key
theorem nb : vp_nar .boolean 0 = nI 0 ∧ vp_nar .boolean 1 = nI 1 := by decide
theorem st_C {b : Nat → Nat} {n mn m : Nat} {w0 : wS} {s d f a : Nat} {C T D : List Nat} {tb : Nat → Nat} {w : wS} {Q : wS → Prop} (h : MS b n mn m w0 s C (D ++ T) d tb w) (hD : ∀ x, x ∈ D → x < 14 ∧ 4 ≤ str x) (hT : eTT 4 T) (ho : opC b n s = some a) (ht : tb (d + 1) = 0) (hb : m + C.length + D.length ≤ 1380) (hTl : T.length ≤ 700) (hk : ∀ w2, MS b n mn m w0 (nxT b n s) (C ++ D) ((4 + a) :: T) d (fu tb (d + 1) 1) w2 → wpO (eO2 4999 (nI 0) f w2) Q) : wpO (eLP (f + 1) w) Q := by
  have h1 := h.1
  have hd5 := h.2.1.2.2.2
  have eg := m_good h.2.1.1
  have ek := m_known h1
  have hq : (kd b n s = 60 ∧ a = 2) ∨ (kd b n s = 61 ∧ a = 3) := by
    unfold opC at ho
    by_cases q1 : kd b n s = 60
    · rw [if_pos q1] at ho; exact Or.inl ⟨q1, (Option.some.inj ho).symm⟩
    · rw [if_neg q1] at ho
      by_cases q2 : kd b n s = 61
      · rw [if_pos q2] at ho; exact Or.inr ⟨q2, (Option.some.inj ho).symm⟩
      · rw [if_neg q2] at ho; cases ho
  rw [kw_no (by omega)] at ek
  have s60 := m_isSign (c := 60) h1 (by decide) (by omega)
  have s61 := m_isSign (c := 61) h1 (by decide) (by omega)
  have hts := (h.2.2.2.2.1 (d + 1) (by omega) (Nat.le_refl _)).1
  rw [ht] at hts
  have key : wpO (J_X10_expression_132 (fun x2 w => xLoop eB f (x2, w)) (fun w83 => J_X10_expression_330 w83) (nI 1) w) Q := by
    unfold J_X10_expression_132 J_X10_expression_166
    simp (disch := omega) only [xB_s, xB2_s, xGet_s, xPut_s, xAld_s, xAst_s, xIf_t, xBool_s, l0, l1, l2, l3, l4, l5, l6, l7, l8, l9, l10, l11, l12, l13, l15, l16, l17, l19, l20, l25, l27, l30, l31, l32, l33, l39, l40, l60, l61, l99, l100, l120, l256, l999, l1999, l99999, lm, nI_add, pk_mul, nI_leI, nI_ltI, nI_eq, wuS_1, wuS_2, wuA_1, wuA_21, wuA_22, nI_m1, m1_nI, nIlt_m1, m1lt_nI, Nat.reduceEqDiff, Nat.reduceAdd, Nat.reduceMul, Nat.reduceSub, Nat.reduceLT, Nat.reduceLeDiff, reduceIte, if_true, if_false, Bool.false_eq_true, Nat.add_zero, Nat.zero_add, ne_eq, not_false_eq_true, not_true_eq_false, Nat.not_lt_zero, Nat.add_left_cancel_iff, Nat.add_right_cancel_iff, eq_self, upd_s, pk_sub, nI_pm, Nat.add_sub_cancel, List.length_cons, List.length_nil, Nat.add_eq_zero_iff, Nat.succ_ne_zero, and_false, false_and, l14, l18, l21, l23, l24, l26, l28, l29, l34, l35, l36, l41, l42, l43, l45, l47, l48, l49, l50, l51, l52, l57, l58, l59, l62, l63, l64, l96, l97, l98, l101, l102, l103, l104, l105, l106, l107, l108, l109, l110, l111, l112, l113, l114, l115, l116, l117, l118, l119, l121, l122, l127, l255, l700, l1320, l1000000, h.2.1.2.2.1, hts, nb.2]
    refine wp_B (m_drops hT (by omega) h hD (by omega)) ?_
    intro w1 g1
    have g1s := m_isSign (c := 60) g1.1 (by decide) (by omega)
    have hgo : wpO (xB (L_X10_waitsFor (nI (4 + a)) w1) fun w42 => xB (xAst w42 15 9 (w42.1 32) (nI 1)) fun w44 => xB (L_X10_goes w44) fun w45 => xB (L_X10_operand (nI 0) w45) fun w46 => J_X10_expression_327 (fun x2 w => xLoop eB f (x2, w)) (fun w83 => J_X10_expression_330 w83) (nI 1) w46) Q := by
      rw [m_waits g1.2.2.2.1.1 (by omega), xB_s]
      have g2 := g1.push (x := 4 + a) (by omega) (by omega)
      rw [g2.2.1.2.2.1, xAst_s (by omega) (by omega), xB_s]
      have g2t := g2.test (v := 1) (by omega)
      refine wp_B (m_goesT g2t.1) ?_
      rintro w3 ⟨F3, T3⟩
      have g3 := g2t.to F3 T3
      rw [opnd_eq, show (5000 : Nat) = 4999 + 1 from rfl, eOP_0 g3.2.1.1]
      exact hk w3 g3
    rcases hq with ⟨q, rfl⟩ | ⟨q, rfl⟩
    · simp (disch := omega) only [xB_s, xB2_s, xGet_s, xPut_s, xAld_s, xAst_s, xIf_t, xBool_s, l0, l1, l2, l3, l4, l5, l6, l7, l8, l9, l10, l11, l12, l13, l15, l16, l17, l19, l20, l25, l27, l30, l31, l32, l33, l39, l40, l60, l61, l99, l100, l120, l256, l999, l1999, l99999, lm, nI_add, pk_mul, nI_leI, nI_ltI, nI_eq, wuS_1, wuS_2, wuA_1, wuA_21, wuA_22, nI_m1, m1_nI, nIlt_m1, m1lt_nI, Nat.reduceEqDiff, Nat.reduceAdd, Nat.reduceMul, Nat.reduceSub, Nat.reduceLT, Nat.reduceLeDiff, reduceIte, if_true, if_false, Bool.false_eq_true, Nat.add_zero, Nat.zero_add, ne_eq, not_false_eq_true, not_true_eq_false, Nat.not_lt_zero, Nat.add_left_cancel_iff, Nat.add_right_cancel_iff, eq_self, upd_s, pk_sub, nI_pm, Nat.add_sub_cancel, List.length_cons, List.length_nil, Nat.add_eq_zero_iff, Nat.succ_ne_zero, and_false, false_and, l14, l18, l21, l23, l24, l26, l28, l29, l34, l35, l36, l41, l42, l43, l45, l47, l48, l49, l50, l51, l52, l57, l58, l59, l62, l63, l64, l96, l97, l98, l101, l102, l103, l104, l105, l106, l107, l108, l109, l110, l111, l112, l113, l114, l115, l116, l117, l118, l119, l121, l122, l127, l255, l700, l1320, l1000000, g1s, q]
      exact hgo
    · simp (disch := omega) only [xB_s, xB2_s, xGet_s, xPut_s, xAld_s, xAst_s, xIf_t, xBool_s, l0, l1, l2, l3, l4, l5, l6, l7, l8, l9, l10, l11, l12, l13, l15, l16, l17, l19, l20, l25, l27, l30, l31, l32, l33, l39, l40, l60, l61, l99, l100, l120, l256, l999, l1999, l99999, lm, nI_add, pk_mul, nI_leI, nI_ltI, nI_eq, wuS_1, wuS_2, wuA_1, wuA_21, wuA_22, nI_m1, m1_nI, nIlt_m1, m1lt_nI, Nat.reduceEqDiff, Nat.reduceAdd, Nat.reduceMul, Nat.reduceSub, Nat.reduceLT, Nat.reduceLeDiff, reduceIte, if_true, if_false, Bool.false_eq_true, Nat.add_zero, Nat.zero_add, ne_eq, not_false_eq_true, not_true_eq_false, Nat.not_lt_zero, Nat.add_left_cancel_iff, Nat.add_right_cancel_iff, eq_self, upd_s, pk_sub, nI_pm, Nat.add_sub_cancel, List.length_cons, List.length_nil, Nat.add_eq_zero_iff, Nat.succ_ne_zero, and_false, false_and, l14, l18, l21, l23, l24, l26, l28, l29, l34, l35, l36, l41, l42, l43, l45, l47, l48, l49, l50, l51, l52, l57, l58, l59, l62, l63, l64, l96, l97, l98, l101, l102, l103, l104, l105, l106, l107, l108, l109, l110, l111, l112, l113, l114, l115, l116, l117, l118, l119, l121, l122, l127, l255, l700, l1320, l1000000, g1s, q]
      exact hgo
  rw [eLP_s]
  unfold B_X10_expression_34
  rcases hq with ⟨q, _⟩ | ⟨q, _⟩
  · simp (disch := omega) only [xB_s, xB2_s, xGet_s, xPut_s, xAld_s, xAst_s, xIf_t, xBool_s, l0, l1, l2, l3, l4, l5, l6, l7, l8, l9, l10, l11, l12, l13, l15, l16, l17, l19, l20, l25, l27, l30, l31, l32, l33, l39, l40, l60, l61, l99, l100, l120, l256, l999, l1999, l99999, lm, nI_add, pk_mul, nI_leI, nI_ltI, nI_eq, wuS_1, wuS_2, wuA_1, wuA_21, wuA_22, nI_m1, m1_nI, nIlt_m1, m1lt_nI, Nat.reduceEqDiff, Nat.reduceAdd, Nat.reduceMul, Nat.reduceSub, Nat.reduceLT, Nat.reduceLeDiff, reduceIte, if_true, if_false, Bool.false_eq_true, Nat.add_zero, Nat.zero_add, ne_eq, not_false_eq_true, not_true_eq_false, Nat.not_lt_zero, Nat.add_left_cancel_iff, Nat.add_right_cancel_iff, eq_self, upd_s, pk_sub, nI_pm, Nat.add_sub_cancel, List.length_cons, List.length_nil, Nat.add_eq_zero_iff, Nat.succ_ne_zero, and_false, false_and, l14, l18, l21, l23, l24, l26, l28, l29, l34, l35, l36, l41, l42, l43, l45, l47, l48, l49, l50, l51, l52, l57, l58, l59, l62, l63, l64, l96, l97, l98, l101, l102, l103, l104, l105, l106, l107, l108, l109, l110, l111, l112, l113, l114, l115, l116, l117, l118, l119, l121, l122, l127, l255, l700, l1320, l1000000, eg, ek, oI_n, s60, s61, q]
    exact key
  · simp (disch := omega) only [xB_s, xB2_s, xGet_s, xPut_s, xAld_s, xAst_s, xIf_t, xBool_s, l0, l1, l2, l3, l4, l5, l6, l7, l8, l9, l10, l11, l12, l13, l15, l16, l17, l19, l20, l25, l27, l30, l31, l32, l33, l39, l40, l60, l61, l99, l100, l120, l256, l999, l1999, l99999, lm, nI_add, pk_mul, nI_leI, nI_ltI, nI_eq, wuS_1, wuS_2, wuA_1, wuA_21, wuA_22, nI_m1, m1_nI, nIlt_m1, m1lt_nI, Nat.reduceEqDiff, Nat.reduceAdd, Nat.reduceMul, Nat.reduceSub, Nat.reduceLT, Nat.reduceLeDiff, reduceIte, if_true, if_false, Bool.false_eq_true, Nat.add_zero, Nat.zero_add, ne_eq, not_false_eq_true, not_true_eq_false, Nat.not_lt_zero, Nat.add_left_cancel_iff, Nat.add_right_cancel_iff, eq_self, upd_s, pk_sub, nI_pm, Nat.add_sub_cancel, List.length_cons, List.length_nil, Nat.add_eq_zero_iff, Nat.succ_ne_zero, and_false, false_and, l14, l18, l21, l23, l24, l26, l28, l29, l34, l35, l36, l41, l42, l43, l45, l47, l48, l49, l50, l51, l52, l57, l58, l59, l62, l63, l64, l96, l97, l98, l101, l102, l103, l104, l105, l106, l107, l108, l109, l110, l111, l112, l113, l114, l115, l116, l117, l118, l119, l121, l122, l127, l255, l700, l1320, l1000000, eg, ek, oI_n, s60, s61, q]
    exact key
theorem st_A {b : Nat → Nat} {n mn m : Nat} {w0 : wS} {s d f a : Nat} {C T D : List Nat} {tb : Nat → Nat} {w : wS} {Q : wS → Prop} (h : MS b n mn m w0 s C (D ++ T) d tb w) (hD : ∀ x, x ∈ D → x < 14 ∧ 2 ≤ str x) (hT : eTT 2 T) (ho : opA b n s = some a) (hb : m + C.length + D.length ≤ 1380) (hTl : T.length ≤ 700) (hk : ∀ w2, MS b n mn m w0 (nxT b n s) (C ++ D) ((4 + a) :: T) d (fu tb (d + 1) 0) w2 → wpO (eOP 5000 (nI 1) f w2) Q) : wpO (eLP (f + 1) w) Q := by
  have h1 := h.1
  have hd5 := h.2.1.2.2.2
  have eg := m_good h.2.1.1
  have ek := m_known h1
  have hq : kw b n s = some 13 ∧ a = 0 := by
    unfold opA at ho
    by_cases q1 : kw b n s = some 13
    · rw [if_pos q1] at ho; exact ⟨q1, (Option.some.inj ho).symm⟩
    · rw [if_neg q1] at ho; cases ho
  obtain ⟨q, rfl⟩ := hq
  rw [q] at ek
  rw [eLP_s]
  unfold B_X10_expression_34 J_X10_expression_62 J_X10_expression_74 J_X10_expression_89
  simp (disch := omega) only [xB_s, xB2_s, xGet_s, xPut_s, xAld_s, xAst_s, xIf_t, xBool_s, l0, l1, l2, l3, l4, l5, l6, l7, l8, l9, l10, l11, l12, l13, l15, l16, l17, l19, l20, l25, l27, l30, l31, l32, l33, l39, l40, l60, l61, l99, l100, l120, l256, l999, l1999, l99999, lm, nI_add, pk_mul, nI_leI, nI_ltI, nI_eq, wuS_1, wuS_2, wuA_1, wuA_21, wuA_22, nI_m1, m1_nI, nIlt_m1, m1lt_nI, Nat.reduceEqDiff, Nat.reduceAdd, Nat.reduceMul, Nat.reduceSub, Nat.reduceLT, Nat.reduceLeDiff, reduceIte, if_true, if_false, Bool.false_eq_true, Nat.add_zero, Nat.zero_add, ne_eq, not_false_eq_true, not_true_eq_false, Nat.not_lt_zero, Nat.add_left_cancel_iff, Nat.add_right_cancel_iff, eq_self, upd_s, pk_sub, nI_pm, Nat.add_sub_cancel, List.length_cons, List.length_nil, Nat.add_eq_zero_iff, Nat.succ_ne_zero, and_false, false_and, l14, l18, l21, l23, l24, l26, l28, l29, l34, l35, l36, l41, l42, l43, l45, l47, l48, l49, l50, l51, l52, l57, l58, l59, l62, l63, l64, l96, l97, l98, l101, l102, l103, l104, l105, l106, l107, l108, l109, l110, l111, l112, l113, l114, l115, l116, l117, l118, l119, l121, l122, l127, l255, l700, l1320, l1000000, eg, ek, oI_s, nb.1]
  refine wp_B (m_drops hT (by omega) h hD (by omega)) ?_
  intro w1 g1
  have hgo : wpO (xB (L_X10_waitsFor (nI (4 + 0)) w1) fun w42 => xB (xAst w42 15 9 (w42.1 32) (nI 0)) fun w44 => xB (L_X10_goes w44) fun w45 => xB (L_X10_operand (nI 1) w45) fun w46 => J_X10_expression_327 (fun x2 w => xLoop eB f (x2, w)) (fun w83 => J_X10_expression_330 w83) (nI 1) w46) Q := by
    rw [m_waits g1.2.2.2.1.1 (by omega), xB_s]
    have g2 := g1.push (x := 4 + 0) (by omega) (by omega)
    rw [g2.2.1.2.2.1, xAst_s (by omega) (by omega), xB_s]
    have g2t := g2.test (v := 0) (by omega)
    refine wp_B (m_goesT g2t.1) ?_
    rintro w3 ⟨F3, T3⟩
    have g3 := g2t.to F3 T3
    rw [opnd_eq]
    exact hk w3 g3
  exact hgo
theorem st_O {b : Nat → Nat} {n mn m : Nat} {w0 : wS} {s d f a : Nat} {C T D : List Nat} {tb : Nat → Nat} {w : wS} {Q : wS → Prop} (h : MS b n mn m w0 s C (D ++ T) d tb w) (hD : ∀ x, x ∈ D → x < 14 ∧ 1 ≤ str x) (hT : eTT 1 T) (ho : opO b n s = some a) (hb : m + C.length + D.length ≤ 1380) (hTl : T.length ≤ 700) (hk : ∀ w2, MS b n mn m w0 (nxT b n s) (C ++ D) ((4 + a) :: T) d (fu tb (d + 1) 0) w2 → wpO (eOP 5000 (nI 1) f w2) Q) : wpO (eLP (f + 1) w) Q := by
  have h1 := h.1
  have hd5 := h.2.1.2.2.2
  have eg := m_good h.2.1.1
  have ek := m_known h1
  have hq : kw b n s = some 14 ∧ a = 1 := by
    unfold opO at ho
    by_cases q1 : kw b n s = some 14
    · rw [if_pos q1] at ho; exact ⟨q1, (Option.some.inj ho).symm⟩
    · rw [if_neg q1] at ho; cases ho
  obtain ⟨q, rfl⟩ := hq
  rw [q] at ek
  rw [eLP_s]
  unfold B_X10_expression_34 J_X10_expression_62 J_X10_expression_74 J_X10_expression_89
  simp (disch := omega) only [xB_s, xB2_s, xGet_s, xPut_s, xAld_s, xAst_s, xIf_t, xBool_s, l0, l1, l2, l3, l4, l5, l6, l7, l8, l9, l10, l11, l12, l13, l15, l16, l17, l19, l20, l25, l27, l30, l31, l32, l33, l39, l40, l60, l61, l99, l100, l120, l256, l999, l1999, l99999, lm, nI_add, pk_mul, nI_leI, nI_ltI, nI_eq, wuS_1, wuS_2, wuA_1, wuA_21, wuA_22, nI_m1, m1_nI, nIlt_m1, m1lt_nI, Nat.reduceEqDiff, Nat.reduceAdd, Nat.reduceMul, Nat.reduceSub, Nat.reduceLT, Nat.reduceLeDiff, reduceIte, if_true, if_false, Bool.false_eq_true, Nat.add_zero, Nat.zero_add, ne_eq, not_false_eq_true, not_true_eq_false, Nat.not_lt_zero, Nat.add_left_cancel_iff, Nat.add_right_cancel_iff, eq_self, upd_s, pk_sub, nI_pm, Nat.add_sub_cancel, List.length_cons, List.length_nil, Nat.add_eq_zero_iff, Nat.succ_ne_zero, and_false, false_and, l14, l18, l21, l23, l24, l26, l28, l29, l34, l35, l36, l41, l42, l43, l45, l47, l48, l49, l50, l51, l52, l57, l58, l59, l62, l63, l64, l96, l97, l98, l101, l102, l103, l104, l105, l106, l107, l108, l109, l110, l111, l112, l113, l114, l115, l116, l117, l118, l119, l121, l122, l127, l255, l700, l1320, l1000000, eg, ek, oI_s, nb.1]
  refine wp_B (m_drops hT (by omega) h hD (by omega)) ?_
  intro w1 g1
  have hgo : wpO (xB (L_X10_waitsFor (nI (4 + 1)) w1) fun w42 => xB (xAst w42 15 9 (w42.1 32) (nI 0)) fun w44 => xB (L_X10_goes w44) fun w45 => xB (L_X10_operand (nI 1) w45) fun w46 => J_X10_expression_327 (fun x2 w => xLoop eB f (x2, w)) (fun w83 => J_X10_expression_330 w83) (nI 1) w46) Q := by
    rw [m_waits g1.2.2.2.1.1 (by omega), xB_s]
    have g2 := g1.push (x := 4 + 1) (by omega) (by omega)
    rw [g2.2.1.2.2.1, xAst_s (by omega) (by omega), xB_s]
    have g2t := g2.test (v := 0) (by omega)
    refine wp_B (m_goesT g2t.1) ?_
    rintro w3 ⟨F3, T3⟩
    have g3 := g2t.to F3 T3
    rw [opnd_eq]
    exact hk w3 g3
  exact hgo
/-- nothing goes on -/
theorem st_end {b : Nat → Nat} {n mn m : Nat} {w0 : wS} {s d f : Nat} {C T : List Nat} {tb : Nat → Nat} {w : wS} (h : MS b n mn m w0 s C T d tb w) (e1 : opM b n s = none) (e2 : opS b n s = none) (e3 : opA b n s = none) (e4 : opO b n s = none) (e5 : tb (d + 1) = 1 ∨ opC b n s = none) (e6 : ¬ kd b n s = 41) : eLP (f + 2) w = J_X10_expression_330 w := by
  have h1 := h.1
  have hd5 := h.2.1.2.2.2
  have eg := m_good h.2.1.1
  have ek := m_known h1
  have a13 : ¬ kw b n s = some 13 := fun z => by unfold opA at e3; rw [if_pos z] at e3; cases e3
  have a14 : ¬ kw b n s = some 14 := fun z => by unfold opO at e4; rw [if_pos z] at e4; cases e4
  have a42 : ¬ kd b n s = 42 := fun z => by unfold opM at e1; rw [if_pos z] at e1; cases e1
  have a47 : ¬ kd b n s = 47 := fun z => by unfold opM at e1; rw [if_neg a42, if_pos z] at e1; cases e1
  have a43 : ¬ kd b n s = 43 := fun z => by unfold opS at e2; rw [if_pos z] at e2; cases e2
  have a45 : ¬ kd b n s = 45 := fun z => by unfold opS at e2; rw [if_neg a43, if_pos z] at e2; cases e2
  have s60 := m_isSign (c := 60) h1 (by decide) (by omega)
  have s61 := m_isSign (c := 61) h1 (by decide) (by omega)
  have s43 := m_isSign (c := 43) h1 (by decide) (by omega)
  have s45 := m_isSign (c := 45) h1 (by decide) (by omega)
  have s42 := m_isSign (c := 42) h1 (by decide) (by omega)
  have s47 := m_isSign (c := 47) h1 (by decide) (by omega)
  have s41 := m_isSign (c := 41) h1 (by decide) (by omega)
  rw [if_neg a43] at s43
  rw [if_neg a45] at s45
  rw [if_neg a42] at s42
  rw [if_neg a47] at s47
  rw [if_neg e6] at s41
  have hts := (h.2.2.2.2.1 (d + 1) (by omega) (Nat.le_refl _))
  have n13 : (oI (kw b n s) = nI 13) = False := eq_false (fun z => a13 ((oI_eqI (fun p hp => by have := kw_lt hp; omega) (fun p hp => by cases hp; omega)).mp (z.trans (oI_s 13).symm)))
  have n14 : (oI (kw b n s) = nI 14) = False := eq_false (fun z => a14 ((oI_eqI (fun p hp => by have := kw_lt hp; omega) (fun p hp => by cases hp; omega)).mp (z.trans (oI_s 14).symm)))
  have j191 : J_X10_expression_191 (fun x2 w => xLoop eB (f + 1) (x2, w)) (fun w83 => J_X10_expression_330 w83) (nI 1) w = J_X10_expression_330 w := by
    unfold J_X10_expression_191 J_X10_expression_325 J_X10_expression_327
    simp (disch := omega) only [xB_s, xB2_s, xGet_s, xPut_s, xAld_s, xAst_s, xIf_t, xBool_s, l0, l1, l2, l3, l4, l5, l6, l7, l8, l9, l10, l11, l12, l13, l15, l16, l17, l19, l20, l25, l27, l30, l31, l32, l33, l39, l40, l60, l61, l99, l100, l120, l256, l999, l1999, l99999, lm, nI_add, pk_mul, nI_leI, nI_ltI, nI_eq, wuS_1, wuS_2, wuA_1, wuA_21, wuA_22, nI_m1, m1_nI, nIlt_m1, m1lt_nI, Nat.reduceEqDiff, Nat.reduceAdd, Nat.reduceMul, Nat.reduceSub, Nat.reduceLT, Nat.reduceLeDiff, reduceIte, if_true, if_false, Bool.false_eq_true, Nat.add_zero, Nat.zero_add, ne_eq, not_false_eq_true, not_true_eq_false, Nat.not_lt_zero, Nat.add_left_cancel_iff, Nat.add_right_cancel_iff, eq_self, upd_s, pk_sub, nI_pm, Nat.add_sub_cancel, List.length_cons, List.length_nil, Nat.add_eq_zero_iff, Nat.succ_ne_zero, and_false, false_and, l14, l18, l21, l23, l24, l26, l28, l29, l34, l35, l36, l41, l42, l43, l45, l47, l48, l49, l50, l51, l52, l57, l58, l59, l62, l63, l64, l96, l97, l98, l101, l102, l103, l104, l105, l106, l107, l108, l109, l110, l111, l112, l113, l114, l115, l116, l117, l118, l119, l121, l122, l127, l255, l700, l1320, l1000000, s43, s45, s42, s47, s41]
    exact eLP_0 f w
  have j132 : (kd b n s = 60 ∨ kd b n s = 61) → J_X10_expression_132 (fun x2 w => xLoop eB (f + 1) (x2, w)) (fun w83 => J_X10_expression_330 w83) (nI 1) w = J_X10_expression_330 w := by
    intro hc
    have ht : tb (d + 1) = 1 := by
      rcases e5 with e5 | e5
      · exact e5
      · exfalso
        unfold opC at e5
        by_cases q1 : kd b n s = 60
        · rw [if_pos q1] at e5; cases e5
        · rw [if_neg q1, if_pos (by omega)] at e5; cases e5
    rw [ht] at hts
    unfold J_X10_expression_132
    simp (disch := omega) only [xB_s, xB2_s, xGet_s, xPut_s, xAld_s, xAst_s, xIf_t, xBool_s, l0, l1, l2, l3, l4, l5, l6, l7, l8, l9, l10, l11, l12, l13, l15, l16, l17, l19, l20, l25, l27, l30, l31, l32, l33, l39, l40, l60, l61, l99, l100, l120, l256, l999, l1999, l99999, lm, nI_add, pk_mul, nI_leI, nI_ltI, nI_eq, wuS_1, wuS_2, wuA_1, wuA_21, wuA_22, nI_m1, m1_nI, nIlt_m1, m1lt_nI, Nat.reduceEqDiff, Nat.reduceAdd, Nat.reduceMul, Nat.reduceSub, Nat.reduceLT, Nat.reduceLeDiff, reduceIte, if_true, if_false, Bool.false_eq_true, Nat.add_zero, Nat.zero_add, ne_eq, not_false_eq_true, not_true_eq_false, Nat.not_lt_zero, Nat.add_left_cancel_iff, Nat.add_right_cancel_iff, eq_self, upd_s, pk_sub, nI_pm, Nat.add_sub_cancel, List.length_cons, List.length_nil, Nat.add_eq_zero_iff, Nat.succ_ne_zero, and_false, false_and, l14, l18, l21, l23, l24, l26, l28, l29, l34, l35, l36, l41, l42, l43, l45, l47, l48, l49, l50, l51, l52, l57, l58, l59, l62, l63, l64, l96, l97, l98, l101, l102, l103, l104, l105, l106, l107, l108, l109, l110, l111, l112, l113, l114, l115, l116, l117, l118, l119, l121, l122, l127, l255, l700, l1320, l1000000, h.2.1.2.2.1, hts.1]
    exact j191
  rw [show f + 2 = (f + 1) + 1 from rfl, eLP_s]
  unfold B_X10_expression_34
  by_cases q1 : kd b n s = 60
  · rw [if_pos q1] at s60
    simp (disch := omega) only [xB_s, xB2_s, xGet_s, xPut_s, xAld_s, xAst_s, xIf_t, xBool_s, l0, l1, l2, l3, l4, l5, l6, l7, l8, l9, l10, l11, l12, l13, l15, l16, l17, l19, l20, l25, l27, l30, l31, l32, l33, l39, l40, l60, l61, l99, l100, l120, l256, l999, l1999, l99999, lm, nI_add, pk_mul, nI_leI, nI_ltI, nI_eq, wuS_1, wuS_2, wuA_1, wuA_21, wuA_22, nI_m1, m1_nI, nIlt_m1, m1lt_nI, Nat.reduceEqDiff, Nat.reduceAdd, Nat.reduceMul, Nat.reduceSub, Nat.reduceLT, Nat.reduceLeDiff, reduceIte, if_true, if_false, Bool.false_eq_true, Nat.add_zero, Nat.zero_add, ne_eq, not_false_eq_true, not_true_eq_false, Nat.not_lt_zero, Nat.add_left_cancel_iff, Nat.add_right_cancel_iff, eq_self, upd_s, pk_sub, nI_pm, Nat.add_sub_cancel, List.length_cons, List.length_nil, Nat.add_eq_zero_iff, Nat.succ_ne_zero, and_false, false_and, l14, l18, l21, l23, l24, l26, l28, l29, l34, l35, l36, l41, l42, l43, l45, l47, l48, l49, l50, l51, l52, l57, l58, l59, l62, l63, l64, l96, l97, l98, l101, l102, l103, l104, l105, l106, l107, l108, l109, l110, l111, l112, l113, l114, l115, l116, l117, l118, l119, l121, l122, l127, l255, l700, l1320, l1000000, eg, ek, n13, n14, s60]
    exact j132 (Or.inl q1)
  · rw [if_neg q1] at s60
    by_cases q2 : kd b n s = 61
    · rw [if_pos q2] at s61
      simp (disch := omega) only [xB_s, xB2_s, xGet_s, xPut_s, xAld_s, xAst_s, xIf_t, xBool_s, l0, l1, l2, l3, l4, l5, l6, l7, l8, l9, l10, l11, l12, l13, l15, l16, l17, l19, l20, l25, l27, l30, l31, l32, l33, l39, l40, l60, l61, l99, l100, l120, l256, l999, l1999, l99999, lm, nI_add, pk_mul, nI_leI, nI_ltI, nI_eq, wuS_1, wuS_2, wuA_1, wuA_21, wuA_22, nI_m1, m1_nI, nIlt_m1, m1lt_nI, Nat.reduceEqDiff, Nat.reduceAdd, Nat.reduceMul, Nat.reduceSub, Nat.reduceLT, Nat.reduceLeDiff, reduceIte, if_true, if_false, Bool.false_eq_true, Nat.add_zero, Nat.zero_add, ne_eq, not_false_eq_true, not_true_eq_false, Nat.not_lt_zero, Nat.add_left_cancel_iff, Nat.add_right_cancel_iff, eq_self, upd_s, pk_sub, nI_pm, Nat.add_sub_cancel, List.length_cons, List.length_nil, Nat.add_eq_zero_iff, Nat.succ_ne_zero, and_false, false_and, l14, l18, l21, l23, l24, l26, l28, l29, l34, l35, l36, l41, l42, l43, l45, l47, l48, l49, l50, l51, l52, l57, l58, l59, l62, l63, l64, l96, l97, l98, l101, l102, l103, l104, l105, l106, l107, l108, l109, l110, l111, l112, l113, l114, l115, l116, l117, l118, l119, l121, l122, l127, l255, l700, l1320, l1000000, eg, ek, n13, n14, s60, s61]
      exact j132 (Or.inr q2)
    · rw [if_neg q2] at s61
      simp (disch := omega) only [xB_s, xB2_s, xGet_s, xPut_s, xAld_s, xAst_s, xIf_t, xBool_s, l0, l1, l2, l3, l4, l5, l6, l7, l8, l9, l10, l11, l12, l13, l15, l16, l17, l19, l20, l25, l27, l30, l31, l32, l33, l39, l40, l60, l61, l99, l100, l120, l256, l999, l1999, l99999, lm, nI_add, pk_mul, nI_leI, nI_ltI, nI_eq, wuS_1, wuS_2, wuA_1, wuA_21, wuA_22, nI_m1, m1_nI, nIlt_m1, m1lt_nI, Nat.reduceEqDiff, Nat.reduceAdd, Nat.reduceMul, Nat.reduceSub, Nat.reduceLT, Nat.reduceLeDiff, reduceIte, if_true, if_false, Bool.false_eq_true, Nat.add_zero, Nat.zero_add, ne_eq, not_false_eq_true, not_true_eq_false, Nat.not_lt_zero, Nat.add_left_cancel_iff, Nat.add_right_cancel_iff, eq_self, upd_s, pk_sub, nI_pm, Nat.add_sub_cancel, List.length_cons, List.length_nil, Nat.add_eq_zero_iff, Nat.succ_ne_zero, and_false, false_and, l14, l18, l21, l23, l24, l26, l28, l29, l34, l35, l36, l41, l42, l43, l45, l47, l48, l49, l50, l51, l52, l57, l58, l59, l62, l63, l64, l96, l97, l98, l101, l102, l103, l104, l105, l106, l107, l108, l109, l110, l111, l112, l113, l114, l115, l116, l117, l118, l119, l121, l122, l127, l255, l700, l1320, l1000000, eg, ek, n13, n14, s60, s61]
      exact j191
/-- a level's loop -/
theorem simL {b : Nat → Nat} {n mn m : Nat} {w0 : wS} {l ls d : Nat} {op : Nat → Option Nat} {sub : Nat → Res} {ent : Nat → wS → Option wS} {Q : wS → Prop} {C T : List Nat} {tb : Nat → Nat} (hll : (5 ≤ l ∧ l < ls) ∨ (l < ls ∧ ls ≤ 4)) (hop : ∀ s a, op s = some a → s < n ∧ a < 8 ∧ str (4 + a) = l) (hpos : ∀ s F s3, s ≤ n → sub s = .inr (F, s3) → s ≤ s3)
    (hst : ∀ s a C' D w f tb', MS b n mn m w0 s C' (D ++ T) d tb' w → (∀ x, x ∈ D → x < 14 ∧ l ≤ str x) → op s = some a → m + C'.length + D.length ≤ 1380 → (∀ w2 tb2, MS b n mn m w0 (nxT b n s) (C' ++ D) ((4 + a) :: T) d tb2 w2 → (∀ i, i ≤ d → tb2 i = tb' i) → (5 ≤ l → tb2 (d + 1) = tb' (d + 1)) → (l ≤ 4 → tb2 (d + 1) = 0) → wpO (ent f w2) Q) → wpO (eLP (f + 1) w) Q)
    (hsub : ∀ s C T tb w f, MS b n mn m w0 s C T d tb w → (ls ≤ 4 → tb (d + 1) = 0) → eTT ls T → eBO m s C T → 702 ≤ f + s → eKO b n mn m w0 Q (sub s) ls C T d tb → wpO (ent f w) Q) :
    ∀ (k : Nat) (E : List Op) (s : Nat) (C' D : List Nat) (w : wS) (f : Nat) (tb' : Nat → Nat), MS b n mn m w0 s C' (D ++ T) d tb' w → C ++ cML E = C' ++ D → (∀ x, x ∈ D → x < 14 ∧ l ≤ str x) → (2 * (m + C'.length + (D ++ T).length) + 2 ≤ 3 * s ∧ (D ++ T).length ≤ s) → 702 ≤ f + s → n < s + k → (∀ i, i ≤ d → tb' i = tb i) → ((5 ≤ l → tb' (d + 1) = tb (d + 1)) ∧ (l ≤ 4 → tb' (d + 1) = 1 ∨ opC b n s = none)) → eKO b n mn m w0 Q (pLoop op (nxT b n) sub k E s) l C T d tb → wpO (eLP f w) Q
  | 0, E, s, C', D, w, f, tb', h, _, _, _, _, hk, _, _, _ => by
    have := h.n7
    omega
  | k + 1, E, s, C', D, w, f, tb', h, hC, hD, hB, hf, hk, ht, htc, hK => by
    have h7 := h.n7
    cases ho : op s with
    | none =>
      rw [pLoop_n ho] at hK
      exact hK C' D w f tb' h hC hD hB hf ht htc
    | some a =>
      rw [pLoop_s ho] at hK
      obtain ⟨o1, o2, o3⟩ := hop s a ho
      have hnx := nxT_lt (b := b) o1
      have hnx2 := (nxT_le (b := b) h7.1).2
      obtain ⟨f, rfl⟩ : ∃ f', f = f' + 1 := ⟨f - 1, by omega⟩
      have hlen : (D ++ T).length = D.length + T.length := List.length_append
      refine hst s a C' D w f tb' h hD ho (by omega) ?_
      intro w2 tb2 g2 u1 u2 u3
      have hhead : eTT ls ((4 + a) :: T) := fun x hx => by
        have hx : some (4 + a) = some x := hx
        obtain rfl := Option.some.inj hx
        exact Or.inr (by omega)
      refine hsub (nxT b n s) (C' ++ D) ((4 + a) :: T) tb2 w2 f g2 (fun q => u3 (by omega)) hhead ?_ (by omega) ?_
      · refine ⟨?_, ?_⟩
        · rw [List.length_append, List.length_cons]; omega
        · rw [List.length_cons]; omega
      · cases e : sub (nxT b n s) with
        | inl ft =>
          rw [e, rB_l] at hK
          exact hK
        | inr p =>
          obtain ⟨F, s3⟩ := p
          rw [e, rB_r] at hK
          intro C1 D1 w3 f3 tb3 g3 hC3 hD3 hB3 hf3 ht3 htc3
          have hass : D1 ++ (4 + a) :: T = (D1 ++ [4 + a]) ++ T := by simp
          rw [hass] at g3 hB3
          refine simL hll hop hpos hst hsub k (E ++ (F ++ [(3, a)])) s3 C1 (D1 ++ [4 + a]) w3 f3 tb3 g3 ?_ ?_ hB3 hf3 ?_ ?_ ?_ hK
          · rw [cML_app, cML_app, cML_op, ← List.append_assoc, hC, ← List.append_assoc, hC3, List.append_assoc]
          · intro x hx
            rcases List.mem_append.mp hx with q | q
            · have := hD3 x q
              exact ⟨this.1, by omega⟩
            · have : x = 4 + a := by simpa using q
              rw [this]
              exact ⟨by omega, by omega⟩
          · have := hpos _ F s3 hnx2 e
            omega
          · intro i hi
            rw [ht3 i hi, u1 i hi]; exact ht i hi
          · refine ⟨fun q => ?_, fun q => ?_⟩
            · rw [htc3.1 (by omega), u2 q]; exact htc.1 q
            · exact htc3.2 (by omega)
end
