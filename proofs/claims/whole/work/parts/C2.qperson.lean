section
/-! ===== a person's line, both sides ===== -/
theorem up_fu {A : Nat → Int32} {f : Nat → Nat} {P v : Nat} (h : ∀ p, p < P → A p = nI (f p)) : ∀ p, p < P + 1 → upd A P (nI v) p = nI (fu f P v p) := fun p hp => by
  rw [upd_s, fu_s]
  by_cases q : p = P
  · rw [if_pos q, if_pos q]
  · rw [if_neg q, if_neg q]; exact h p (by omega)
theorem up_fuN {A : Nat → Int32} {f : Nat → Nat} {P v N : Nat} (h : ∀ p, p < N → A p = nI (f p)) : ∀ p, p < N → upd A P (nI v) p = nI (fu f P v p) := fun p hp => by
  rw [upd_s, fu_s]
  by_cases q : p = P
  · rw [if_pos q, if_pos q]
  · rw [if_neg q, if_neg q]; exact h p hp
theorem up_fuS {A : Nat → Int32} {f : Nat → Nat} {P v N c : Nat} (h : ∀ p, p < N → A (c + p) = nI (f p)) : ∀ p, p < N → upd A (c + P) (nI v) (c + p) = nI (fu f P v p) := fun p hp => by
  rw [upd_s, fu_s]
  by_cases q : p = P
  · rw [if_pos (by omega), if_pos q]
  · rw [if_neg (by omega), if_neg q]; exact h p hp
theorem m_begin1 {b : Nat → Nat} {n s : Nat} {w : wS} (h : TMk b n s w) (h13 : w.1 13 = nI 0) : wpO (L_X10_begins (nI 0) (nI 0) w) (fun r => r.1 = nI 1 ∧ FL nMK [] w r.2 ∧ TMk b n (nxT b n s) r.2 ∧ r.2.1 13 = nI 0) := by
  unfold L_X10_begins J_X10_begins_9 J_X10_begins_18
  simp (disch := omega) only [xB_s, xB2_s, xGet_s, xPut_s, xAld_s, xAst_s, xIf_t, xBool_s, l0, l1, l2, l3, l4, l5, l6, l7, l8, l9, l10, l11, l12, l13, l15, l16, l17, l19, l20, l25, l27, l30, l31, l32, l33, l39, l40, l60, l61, l99, l100, l120, l256, l999, l1999, l99999, lm, nI_add, pk_mul, nI_leI, nI_ltI, nI_eq, wuS_1, wuS_2, wuA_1, wuA_21, wuA_22, nI_m1, m1_nI, nIlt_m1, m1lt_nI, Nat.reduceEqDiff, Nat.reduceAdd, Nat.reduceMul, Nat.reduceSub, Nat.reduceLT, Nat.reduceLeDiff, reduceIte, if_true, if_false, Bool.false_eq_true, Nat.add_zero, Nat.zero_add, ne_eq, not_false_eq_true, not_true_eq_false, Nat.not_lt_zero, Nat.add_left_cancel_iff, Nat.add_right_cancel_iff, eq_self, upd_s, pk_sub, nI_pm, Nat.add_sub_cancel, List.length_cons, List.length_nil, Nat.add_eq_zero_iff, Nat.succ_ne_zero, and_false, false_and, l14, l18, l21, l23, l24, l26, l28, l29, l34, l35, l36, l41, l42, l43, l45, l47, l48, l49, l50, l51, l52, l57, l58, l59, l62, l63, l64, l96, l97, l98, l101, l102, l103, l104, l105, l106, l107, l108, l109, l110, l111, l112, l113, l114, l115, l116, l117, l118, l119, l121, l122, l127, l255, l700, l1320, l1000000, m_good h13]
  refine wp_B (m_goesT h) ?_
  rintro w1 ⟨f1, f2⟩
  exact wp_some ⟨rfl, f1.mono (by decide) (by simp), f2, (f1.1 13 (by decide)).trans h13⟩
theorem m_begin2 {b : Nat → Nat} {n s : Nat} {w : wS} (h : TMk b n s w) (h13 : w.1 13 = nI 0) : L_X10_begins (nI 1) (nI 0) w = some (nI 0, wuS (wuS w 13 (nI 2)) 14 (nI s)) := by
  have e13 : (wuS (wuS w 13 (nI 2)) 14 (nI s)).1 13 = nI 2 := by simp (disch := omega) only [xB_s, xB2_s, xGet_s, xPut_s, xAld_s, xAst_s, xIf_t, xBool_s, l0, l1, l2, l3, l4, l5, l6, l7, l8, l9, l10, l11, l12, l13, l15, l16, l17, l19, l20, l25, l27, l30, l31, l32, l33, l39, l40, l60, l61, l99, l100, l120, l256, l999, l1999, l99999, lm, nI_add, pk_mul, nI_leI, nI_ltI, nI_eq, wuS_1, wuS_2, wuA_1, wuA_21, wuA_22, nI_m1, m1_nI, nIlt_m1, m1lt_nI, Nat.reduceEqDiff, Nat.reduceAdd, Nat.reduceMul, Nat.reduceSub, Nat.reduceLT, Nat.reduceLeDiff, reduceIte, if_true, if_false, Bool.false_eq_true, Nat.add_zero, Nat.zero_add, ne_eq, not_false_eq_true, not_true_eq_false, Nat.not_lt_zero, Nat.add_left_cancel_iff, Nat.add_right_cancel_iff, eq_self, upd_s, pk_sub, nI_pm, Nat.add_sub_cancel, List.length_cons, List.length_nil, Nat.add_eq_zero_iff, Nat.succ_ne_zero, and_false, false_and, l14, l18, l21, l23, l24, l26, l28, l29, l34, l35, l36, l41, l42, l43, l45, l47, l48, l49, l50, l51, l52, l57, l58, l59, l62, l63, l64, l96, l97, l98, l101, l102, l103, l104, l105, l106, l107, l108, l109, l110, l111, l112, l113, l114, l115, l116, l117, l118, l119, l121, l122, l127, l255, l700, l1320, l1000000]
  unfold L_X10_begins J_X10_begins_9 J_X10_begins_18
  simp (disch := omega) only [xB_s, xB2_s, xGet_s, xPut_s, xAld_s, xAst_s, xIf_t, xBool_s, l0, l1, l2, l3, l4, l5, l6, l7, l8, l9, l10, l11, l12, l13, l15, l16, l17, l19, l20, l25, l27, l30, l31, l32, l33, l39, l40, l60, l61, l99, l100, l120, l256, l999, l1999, l99999, lm, nI_add, pk_mul, nI_leI, nI_ltI, nI_eq, wuS_1, wuS_2, wuA_1, wuA_21, wuA_22, nI_m1, m1_nI, nIlt_m1, m1lt_nI, Nat.reduceEqDiff, Nat.reduceAdd, Nat.reduceMul, Nat.reduceSub, Nat.reduceLT, Nat.reduceLeDiff, reduceIte, if_true, if_false, Bool.false_eq_true, Nat.add_zero, Nat.zero_add, ne_eq, not_false_eq_true, not_true_eq_false, Nat.not_lt_zero, Nat.add_left_cancel_iff, Nat.add_right_cancel_iff, eq_self, upd_s, pk_sub, nI_pm, Nat.add_sub_cancel, List.length_cons, List.length_nil, Nat.add_eq_zero_iff, Nat.succ_ne_zero, and_false, false_and, l14, l18, l21, l23, l24, l26, l28, l29, l34, l35, l36, l41, l42, l43, l45, l47, l48, l49, l50, l51, l52, l57, l58, l59, l62, l63, l64, l96, l97, l98, l101, l102, l103, l104, l105, l106, l107, l108, l109, l110, l111, l112, l113, l114, l115, l116, l117, l118, l119, l121, l122, l127, l255, l700, l1320, l1000000, m_wrong (k := 2) h13, h.2.2.2.2.1, m_ngood e13 (by decide) (by decide)]
theorem m_begin5 {b : Nat → Nat} {n s : Nat} {w : wS} (h : TMk b n s w) (h13 : w.1 13 = nI 0) : L_X10_begins (nI 0) (nI 1) w = some (nI 0, wuS (wuS w 13 (nI 5)) 14 (nI s)) := by
  have e13 : (wuS (wuS w 13 (nI 5)) 14 (nI s)).1 13 = nI 5 := by simp (disch := omega) only [xB_s, xB2_s, xGet_s, xPut_s, xAld_s, xAst_s, xIf_t, xBool_s, l0, l1, l2, l3, l4, l5, l6, l7, l8, l9, l10, l11, l12, l13, l15, l16, l17, l19, l20, l25, l27, l30, l31, l32, l33, l39, l40, l60, l61, l99, l100, l120, l256, l999, l1999, l99999, lm, nI_add, pk_mul, nI_leI, nI_ltI, nI_eq, wuS_1, wuS_2, wuA_1, wuA_21, wuA_22, nI_m1, m1_nI, nIlt_m1, m1lt_nI, Nat.reduceEqDiff, Nat.reduceAdd, Nat.reduceMul, Nat.reduceSub, Nat.reduceLT, Nat.reduceLeDiff, reduceIte, if_true, if_false, Bool.false_eq_true, Nat.add_zero, Nat.zero_add, ne_eq, not_false_eq_true, not_true_eq_false, Nat.not_lt_zero, Nat.add_left_cancel_iff, Nat.add_right_cancel_iff, eq_self, upd_s, pk_sub, nI_pm, Nat.add_sub_cancel, List.length_cons, List.length_nil, Nat.add_eq_zero_iff, Nat.succ_ne_zero, and_false, false_and, l14, l18, l21, l23, l24, l26, l28, l29, l34, l35, l36, l41, l42, l43, l45, l47, l48, l49, l50, l51, l52, l57, l58, l59, l62, l63, l64, l96, l97, l98, l101, l102, l103, l104, l105, l106, l107, l108, l109, l110, l111, l112, l113, l114, l115, l116, l117, l118, l119, l121, l122, l127, l255, l700, l1320, l1000000]
  unfold L_X10_begins J_X10_begins_9 J_X10_begins_18
  simp (disch := omega) only [xB_s, xB2_s, xGet_s, xPut_s, xAld_s, xAst_s, xIf_t, xBool_s, l0, l1, l2, l3, l4, l5, l6, l7, l8, l9, l10, l11, l12, l13, l15, l16, l17, l19, l20, l25, l27, l30, l31, l32, l33, l39, l40, l60, l61, l99, l100, l120, l256, l999, l1999, l99999, lm, nI_add, pk_mul, nI_leI, nI_ltI, nI_eq, wuS_1, wuS_2, wuA_1, wuA_21, wuA_22, nI_m1, m1_nI, nIlt_m1, m1lt_nI, Nat.reduceEqDiff, Nat.reduceAdd, Nat.reduceMul, Nat.reduceSub, Nat.reduceLT, Nat.reduceLeDiff, reduceIte, if_true, if_false, Bool.false_eq_true, Nat.add_zero, Nat.zero_add, ne_eq, not_false_eq_true, not_true_eq_false, Nat.not_lt_zero, Nat.add_left_cancel_iff, Nat.add_right_cancel_iff, eq_self, upd_s, pk_sub, nI_pm, Nat.add_sub_cancel, List.length_cons, List.length_nil, Nat.add_eq_zero_iff, Nat.succ_ne_zero, and_false, false_and, l14, l18, l21, l23, l24, l26, l28, l29, l34, l35, l36, l41, l42, l43, l45, l47, l48, l49, l50, l51, l52, l57, l58, l59, l62, l63, l64, l96, l97, l98, l101, l102, l103, l104, l105, l106, l107, l108, l109, l110, l111, l112, l113, l114, l115, l116, l117, l118, l119, l121, l122, l127, l255, l700, l1320, l1000000, m_wrong (k := 5) h13, h.2.2.2.2.1, m_ngood e13 (by decide) (by decide)]
theorem LF.mk {w v w' : wS} {c s : Nat} (h1 : c ≠ 0 ∧ c < 10) (hX : XF (c, s) w w') : LF w' (wuS (wuS v 13 (nI c)) 14 (nI s)) := ⟨(c, s), h1, hX.2.1, hX.2.2, by simp (disch := omega) only [xB_s, xB2_s, xGet_s, xPut_s, xAld_s, xAst_s, xIf_t, xBool_s, l0, l1, l2, l3, l4, l5, l6, l7, l8, l9, l10, l11, l12, l13, l15, l16, l17, l19, l20, l25, l27, l30, l31, l32, l33, l39, l40, l60, l61, l99, l100, l120, l256, l999, l1999, l99999, lm, nI_add, pk_mul, nI_leI, nI_ltI, nI_eq, wuS_1, wuS_2, wuA_1, wuA_21, wuA_22, nI_m1, m1_nI, nIlt_m1, m1lt_nI, Nat.reduceEqDiff, Nat.reduceAdd, Nat.reduceMul, Nat.reduceSub, Nat.reduceLT, Nat.reduceLeDiff, reduceIte, if_true, if_false, Bool.false_eq_true, Nat.add_zero, Nat.zero_add, ne_eq, not_false_eq_true, not_true_eq_false, Nat.not_lt_zero, Nat.add_left_cancel_iff, Nat.add_right_cancel_iff, eq_self, upd_s, pk_sub, nI_pm, Nat.add_sub_cancel, List.length_cons, List.length_nil, Nat.add_eq_zero_iff, Nat.succ_ne_zero, and_false, false_and, l14, l18, l21, l23, l24, l26, l28, l29, l34, l35, l36, l41, l42, l43, l45, l47, l48, l49, l50, l51, l52, l57, l58, l59, l62, l63, l64, l96, l97, l98, l101, l102, l103, l104, l105, l106, l107, l108, l109, l110, l111, l112, l113, l114, l115, l116, l117, l118, l119, l121, l122, l127, l255, l700, l1320, l1000000], wuS_at⟩
theorem t_person {b : Nat → Nat} {n s k m : Nat} {D : Df} {o : wO} {w v : wS} (hk : k ≤ 2) (h : LR b n D m s o w v) : R2 (xB2 (L_X2_human o (nI k) w) fun x w' => J_X2_line_151 o x w') (J_X10_line_23 (nI (7 + k)) v) (LQ b n s o w v) := by
  obtain ⟨⟨tx, tm⟩, hX, hM, hO⟩ := h
  have hP : tP D.1 ≤ 8 := hO.1.1
  have h6 := hX.1.1
  have h107 := hX.2.2.1.2.1
  have h13 := hM.2.2.2.2.2
  have h24 := hM.1.1
  have r0 : xRef w 107 (oT o) = true := xRef_t h107
  unfold J_X10_line_23 J_X10_line_38
  by_cases q8 : tP D.1 = 8
  · unfold L_X2_human
    rw [q8] at h6 h24
    simp (disch := omega) only [xB_s, xB2_s, xGet_s, xPut_s, xAld_s, xAst_s, xIf_t, xBool_s, l0, l1, l2, l3, l4, l5, l6, l7, l8, l9, l10, l11, l12, l13, l15, l16, l17, l19, l20, l25, l27, l30, l31, l32, l33, l39, l40, l60, l61, l99, l100, l120, l256, l999, l1999, l99999, lm, nI_add, pk_mul, nI_leI, nI_ltI, nI_eq, wuS_1, wuS_2, wuA_1, wuA_21, wuA_22, nI_m1, m1_nI, nIlt_m1, m1lt_nI, Nat.reduceEqDiff, Nat.reduceAdd, Nat.reduceMul, Nat.reduceSub, Nat.reduceLT, Nat.reduceLeDiff, reduceIte, if_true, if_false, Bool.false_eq_true, Nat.add_zero, Nat.zero_add, ne_eq, not_false_eq_true, not_true_eq_false, Nat.not_lt_zero, Nat.add_left_cancel_iff, Nat.add_right_cancel_iff, eq_self, upd_s, pk_sub, nI_pm, Nat.add_sub_cancel, List.length_cons, List.length_nil, Nat.add_eq_zero_iff, Nat.succ_ne_zero, and_false, false_and, l14, l18, l21, l23, l24, l26, l28, l29, l34, l35, l36, l41, l42, l43, l45, l47, l48, l49, l50, l51, l52, l57, l58, l59, l62, l63, l64, l96, l97, l98, l101, l102, l103, l104, l105, l106, l107, l108, l109, l110, l111, l112, l113, l114, l115, l116, l117, l118, l119, l121, l122, l127, l255, l700, l1320, l1000000, r0, h6, h24, m_begin2 tm h13, xIf_tt]
    rw [xB2_B2]
    refine R2.x2 (x_refuse (k := 2) tx) ?_
    rintro a w1 ⟨g1, g2⟩
    have g1 : a = nI 0 := g1
    simp (disch := omega) only [xB_s, xB2_s, xGet_s, xPut_s, xAld_s, xAst_s, xIf_t, xBool_s, l0, l1, l2, l3, l4, l5, l6, l7, l8, l9, l10, l11, l12, l13, l15, l16, l17, l19, l20, l25, l27, l30, l31, l32, l33, l39, l40, l60, l61, l99, l100, l120, l256, l999, l1999, l99999, lm, nI_add, pk_mul, nI_leI, nI_ltI, nI_eq, wuS_1, wuS_2, wuA_1, wuA_21, wuA_22, nI_m1, m1_nI, nIlt_m1, m1lt_nI, Nat.reduceEqDiff, Nat.reduceAdd, Nat.reduceMul, Nat.reduceSub, Nat.reduceLT, Nat.reduceLeDiff, reduceIte, if_true, if_false, Bool.false_eq_true, Nat.add_zero, Nat.zero_add, ne_eq, not_false_eq_true, not_true_eq_false, Nat.not_lt_zero, Nat.add_left_cancel_iff, Nat.add_right_cancel_iff, eq_self, upd_s, pk_sub, nI_pm, Nat.add_sub_cancel, List.length_cons, List.length_nil, Nat.add_eq_zero_iff, Nat.succ_ne_zero, and_false, false_and, l14, l18, l21, l23, l24, l26, l28, l29, l34, l35, l36, l41, l42, l43, l45, l47, l48, l49, l50, l51, l52, l57, l58, l59, l62, l63, l64, l96, l97, l98, l101, l102, l103, l104, l105, l106, l107, l108, l109, l110, l111, l112, l113, l114, l115, l116, l117, l118, l119, l121, l122, l127, l255, l700, l1320, l1000000, g1]
    exact q_bad (XFr.refl.F g2.1 (by decide) (by decide)) ((FL.refl.S (by decide)).S (by decide)) ⟨rfl, hX.2.2.2.1⟩ (LF.mk ⟨by decide, by decide⟩ g2)
  · simp (disch := omega) only [xB_s, xB2_s, xGet_s, xPut_s, xAld_s, xAst_s, xIf_t, xBool_s, l0, l1, l2, l3, l4, l5, l6, l7, l8, l9, l10, l11, l12, l13, l15, l16, l17, l19, l20, l25, l27, l30, l31, l32, l33, l39, l40, l60, l61, l99, l100, l120, l256, l999, l1999, l99999, lm, nI_add, pk_mul, nI_leI, nI_ltI, nI_eq, wuS_1, wuS_2, wuA_1, wuA_21, wuA_22, nI_m1, m1_nI, nIlt_m1, m1lt_nI, Nat.reduceEqDiff, Nat.reduceAdd, Nat.reduceMul, Nat.reduceSub, Nat.reduceLT, Nat.reduceLeDiff, reduceIte, if_true, if_false, Bool.false_eq_true, Nat.add_zero, Nat.zero_add, ne_eq, not_false_eq_true, not_true_eq_false, Nat.not_lt_zero, Nat.add_left_cancel_iff, Nat.add_right_cancel_iff, eq_self, upd_s, pk_sub, nI_pm, Nat.add_sub_cancel, List.length_cons, List.length_nil, Nat.add_eq_zero_iff, Nat.succ_ne_zero, and_false, false_and, l14, l18, l21, l23, l24, l26, l28, l29, l34, l35, l36, l41, l42, l43, l45, l47, l48, l49, l50, l51, l52, l57, l58, l59, l62, l63, l64, l96, l97, l98, l101, l102, l103, l104, l105, l106, l107, l108, l109, l110, l111, l112, l113, l114, l115, l116, l117, l118, l119, l121, l122, l127, l255, l700, l1320, l1000000, h24, q8]
    refine R2.m2 (m_begin1 tm h13) ?_
    rintro a v1 ⟨g1, g2, g3, g4⟩
    have g1 : a = nI 1 := g1
    simp (disch := omega) only [xB_s, xB2_s, xGet_s, xPut_s, xAld_s, xAst_s, xIf_t, xBool_s, l0, l1, l2, l3, l4, l5, l6, l7, l8, l9, l10, l11, l12, l13, l15, l16, l17, l19, l20, l25, l27, l30, l31, l32, l33, l39, l40, l60, l61, l99, l100, l120, l256, l999, l1999, l99999, lm, nI_add, pk_mul, nI_leI, nI_ltI, nI_eq, wuS_1, wuS_2, wuA_1, wuA_21, wuA_22, nI_m1, m1_nI, nIlt_m1, m1lt_nI, Nat.reduceEqDiff, Nat.reduceAdd, Nat.reduceMul, Nat.reduceSub, Nat.reduceLT, Nat.reduceLeDiff, reduceIte, if_true, if_false, Bool.false_eq_true, Nat.add_zero, Nat.zero_add, ne_eq, not_false_eq_true, not_true_eq_false, Nat.not_lt_zero, Nat.add_left_cancel_iff, Nat.add_right_cancel_iff, eq_self, upd_s, pk_sub, nI_pm, Nat.add_sub_cancel, List.length_cons, List.length_nil, Nat.add_eq_zero_iff, Nat.succ_ne_zero, and_false, false_and, l14, l18, l21, l23, l24, l26, l28, l29, l34, l35, l36, l41, l42, l43, l45, l47, l48, l49, l50, l51, l52, l57, l58, l59, l62, l63, l64, l96, l97, l98, l101, l102, l103, l104, l105, l106, l107, l108, l109, l110, l111, l112, l113, l114, l115, l116, l117, l118, l119, l121, l122, l127, l255, l700, l1320, l1000000, g1, show 7 + k - 7 = k from by omega]
    have e24 : v1.1 24 = nI (tP D.1) := (g2.1 24 (by decide)).trans h24
    refine R2.x2 (x_human hk tx h6 (by omega) h107 hX.2.2.1.2.2) ?_
    rintro x w1 ⟨G, R⟩
    refine R2.m (m_person hk g3 g4 e24 (by omega)) ?_
    rintro v2 ⟨G', R'⟩
    have hb := pPer_b (b := b) (n := n) (s := nxT b n s) (nxT_le tm.2.1).2
    have FX : XFr w w1 := XFr.refl.F2 G (by decide) (by decide)
    have FM : FL lMK lMA v v2 := (g2.mono (by decide) (by simp)).trans (G'.mono (by decide) (by decide))
    cases e : pPer b n (nxT b n s) with
    | inl f =>
      rw [e] at R R' hb
      obtain ⟨R1, R2', R3⟩ : x = nI 0 ∧ w1.1 101 = nI f.1 ∧ w1.1 102 = nI f.2 := R
      rw [R1]
      exact q_bad FX FM ⟨rfl, hX.2.2.2.1⟩ ⟨f, hb, R2', R3, R'.1, R'.2⟩
    | inr p =>
      obtain ⟨y, s'⟩ := p
      rw [e] at R R' hb
      obtain ⟨R1, R2', R3, R4, R5, R6, R7, R8⟩ : x = nI 1 ∧ TX b n s' w1 ∧ w1.1 101 = nI 0 ∧ w1.1 100006 = nI (tP D.1 + 1) ∧ w1.2.1 1001 = upd (w.2.1 1001) (tP D.1) (nI k) ∧ w1.2.1 1002 = upd (w.2.1 1002) (tP D.1) (nI y.1) ∧ w1.2.1 1003 = upd (w.2.1 1003) (tP D.1) (nI y.2.1) ∧ w1.2.1 1004 = upd (w.2.1 1004) (tP D.1) (nI y.2.2) := R
      obtain ⟨S2, S3, S4, S5, S6, S7, S8⟩ : TMk b n s' v2 ∧ v2.1 13 = nI 0 ∧ v2.1 24 = nI (tP D.1 + 1) ∧ v2.2.1 8 = upd (v1.2.1 8) (tP D.1) (nI k) ∧ v2.2.1 9 = upd (v1.2.1 9) (tP D.1) (nI y.1) ∧ v2.2.1 12 = upd (v1.2.1 12) (3 + tP D.1) (nI y.2.1) ∧ v2.2.1 10 = upd (v1.2.1 10) (tP D.1) (nI y.2.2) := R'
      obtain ⟨b1, b2, b3, b4⟩ : y.1 ≤ 60 ∧ y.2.1 ≤ 60 ∧ y.2.2 ≤ 30 ∧ nxT b n s ≤ s' := hb
      rw [R1]
      have hle := (nxT_le (b := b) tm.2.1).1
      have gA : ∀ c, v1.2.1 c = v.2.1 c := fun c => g2.2.1 c (by simp)
      rw [gA] at S5 S6 S7 S8
      refine q_end (D := (((tP D.1 + 1, tD D.1, tC D.1), (fu (tK D.1) (tP D.1) k, fu (tH D.1) (tP D.1) y.1, fu (tO D.1) (tP D.1) y.2.2, tW D.1), tR D.1, tS D.1), fu D.2.1 (tP D.1) y.2.1, D.2.2.1, D.2.2.2)) (m := m) FX FM rfl ⟨⟨R2', S2⟩, ?_, ?_, ?_⟩ (by omega)
      · obtain ⟨⟨x1, x2, x3, x4, x5, x6, x7, x8⟩, ⟨y1, y2, y3⟩, ⟨z1, z2, z3⟩, z4⟩ := hX
        refine ⟨⟨R4, ?_, ?_, ?_, ?_, ?_, ?_, ?_⟩, ⟨?_, ?_, ?_⟩, ⟨?_, ?_, R3⟩, z4⟩
        · rw [G.1 100007 (by decide)]; exact x2
        · rw [G.1 100008 (by decide)]; exact x3
        · rw [R5]; exact up_fu x4
        · rw [R8]; exact up_fu x5
        · rw [G.2.1 1006 (by decide)]; exact x6
        · rw [G.2.1 2001 (by decide), G.2.2]; exact x7
        · rw [G.2.1 3001 (by decide), G.2.2]; exact x8
        · rw [R6]; exact up_fu y1
        · rw [R7]; exact up_fuN y2
        · rw [G.2.1 1005 (by decide)]; exact y3
        · rw [G.1 106 (by decide)]; exact z1
        · rw [G.2.2]; exact z2
      · obtain ⟨⟨x1, x2, x3⟩, ⟨y1, y2, y3, y4⟩, ⟨z1, z2, z3, z4, z5, z6⟩, ⟨u1, u2⟩, u3, u4⟩ := hM
        have kk : ∀ k, k ∉ hMK → v2.1 k = v.1 k := fun k hk => (G'.1 k hk).trans (g2.1 k (fun q => hk ((by decide : ∀ j, j ∈ nMK → j ∈ hMK) k q)))
        refine ⟨⟨S4, ?_, ?_⟩, ⟨?_, ?_, ?_, ?_⟩, ⟨?_, ?_, ?_, ?_, ?_, ?_⟩, ⟨?_, ?_⟩, ?_, S3⟩
        · rw [kk 25 (by decide)]; exact x2
        · rw [kk 26 (by decide)]; exact x3
        · rw [S5]; exact up_fu y1
        · rw [S6]; exact up_fu y2
        · rw [S8]; exact up_fu y3
        · rw [G'.2.1 11 (by decide), gA]; exact y4
        · rw [S7, upd_s, if_neg (by omega)]; exact z1
        · rw [S7, upd_s, if_neg (by omega)]; exact z2
        · rw [S7, upd_s, if_neg (by omega)]; exact z3
        · rw [S7]; exact up_fuS z4
        · intro j j1 j2
          rw [S7, upd_s, if_neg (by omega)]; exact z5 j j1 j2
        · intro d hd
          rw [S7, upd_s, if_neg (by omega)]; exact z6 d hd
        · rw [kk 27 (by decide), G'.2.1 13 (by decide), gA]; exact u1
        · rw [kk 28 (by decide), G'.2.1 13 (by decide), gA]; exact u2
        · rw [kk 29 (by decide)]; exact u3
      · obtain ⟨⟨o1, o2, o3, o4, o5, o6, o7, o8⟩, p1, p2, p3, p4⟩ := hO
        refine ⟨⟨?_, o2, o3, fu_le o4 hk, fu_le o5 b1, fu_le o6 b3, o7, o8⟩, fu_le p1 b2, p2, p3, ?_⟩
        · show tP D.1 + 1 ≤ 8; omega
        · omega
end
