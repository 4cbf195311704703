section
/-- what the inner call must give -/
def hRec (b : Nat → Nat) (n mn : Nat) (rec : Int32 → wS → Option (Int32 × wS)) (pr : Nat → Nat → Res) (B d : Nat) : Prop := ∀ s m w, XP b n mn s m w → wpO (rec (nI (d + 1)) w) (XQ b n mn m w (pr (d + 1) s)) ∧ gR b n s B (pr (d + 1) s)
theorem hRec.g {b : Nat → Nat} {n mn B d : Nat} {rec : Int32 → wS → Option (Int32 × wS)} {pr : Nat → Nat → Res} (hg : ∀ s, s ≤ n → gR b n s B (pr (d + 1) s)) : ∀ s, s ≤ n → gR b n s B (pr (d + 1) s) := hg
theorem XG.n {b : Nat → Nat} {n mn s m : Nat} {w w' : wS} {R : Res} {r : Int32 × wS} (h : XG b n mn s m [] w w') (h' : XQ b n mn m w' R r) : XQ b n mn m w R r := by
  cases R with
  | inl f => exact ⟨h'.1, h.f h'.2⟩
  | inr p =>
    obtain ⟨E, s'⟩ := p
    exact ⟨h'.1, (h.t (F := E) h'.2)⟩
theorem x_part {b : Nat → Nat} {n mn B d s m : Nat} {rec : Int32 → wS → Option (Int32 × wS)} {pr : Nat → Nat → Res} {o : wO} {w : wS} (hmn : mn = 5 ∨ mn = 6) (hd : d < 100) (hr : ∀ s m w, XP b n mn s m w → wpO (rec (nI (d + 1)) w) (XQ b n mn m w (pr (d + 1) s))) (h : XP b n mn s m w) : wpO (L_X2_part rec o (nI d) w) (XQ b n mn m w (pPart b n mn pr d s)) := by
  have hk := h.k
  have hn := h.1.1.1
  have hsn := h.1.2.1
  have h5 := h.2.2.2.2
  unfold L_X2_part J_X2_part_42 J_X2_part_43 J_X2_part_108 pPart
  simp (disch := omega) only [xB_s, xB2_s, xGet_s, xPut_s, xAld_s, xAst_s, xIf_t, xBool_s, l0, l1, l2, l3, l4, l5, l6, l7, l8, l9, l10, l11, l12, l13, l15, l16, l17, l19, l20, l25, l27, l30, l31, l32, l33, l39, l40, l60, l61, l99, l100, l120, l256, l999, l1999, l99999, lm, nI_add, pk_mul, nI_leI, nI_ltI, nI_eq, wuS_1, wuS_2, wuA_1, wuA_21, wuA_22, nI_m1, m1_nI, nIlt_m1, m1lt_nI, Nat.reduceEqDiff, Nat.reduceAdd, Nat.reduceMul, Nat.reduceSub, Nat.reduceLT, Nat.reduceLeDiff, reduceIte, if_true, if_false, Bool.false_eq_true, Nat.add_zero, Nat.zero_add, ne_eq, not_false_eq_true, not_true_eq_false, Nat.not_lt_zero, Nat.add_left_cancel_iff, Nat.add_right_cancel_iff, eq_self, upd_s, pk_sub, nI_pm, Nat.add_sub_cancel, List.length_cons, List.length_nil, Nat.add_eq_zero_iff, Nat.succ_ne_zero, and_false, false_and, l14, l18, l21, l23, l24, l26, l28, l29, l34, l35, l36, l41, l42, l43, l45, l47, l48, l49, l50, l51, l52, l57, l58, l59, l62, l63, l64, l96, l97, l98, l101, l102, l103, l104, l105, l106, l107, l108, l109, l110, l111, l112, l113, l114, l115, l116, l117, l118, l119, l121, l122, l127, l255, l700, l1320, l1000000, h.1.2.2.1]
  by_cases q1 : kd b n s = 40
  · rw [if_pos q1, if_pos q1]
    refine wp_B (x_advT h) ?_
    intro w1 g1
    have g1p := g1.2.1
    refine wp_B2 (hr (nxT b n s) m w1 g1p) ?_
    intro v w2 g2
    cases e : pr (d + 1) (nxT b n s) with
    | inl f =>
      rw [e] at g2
      have e1 : v = nI 0 := g2.1
      simp (disch := omega) only [xB_s, xB2_s, xGet_s, xPut_s, xAld_s, xAst_s, xIf_t, xBool_s, l0, l1, l2, l3, l4, l5, l6, l7, l8, l9, l10, l11, l12, l13, l15, l16, l17, l19, l20, l25, l27, l30, l31, l32, l33, l39, l40, l60, l61, l99, l100, l120, l256, l999, l1999, l99999, lm, nI_add, pk_mul, nI_leI, nI_ltI, nI_eq, wuS_1, wuS_2, wuA_1, wuA_21, wuA_22, nI_m1, m1_nI, nIlt_m1, m1lt_nI, Nat.reduceEqDiff, Nat.reduceAdd, Nat.reduceMul, Nat.reduceSub, Nat.reduceLT, Nat.reduceLeDiff, reduceIte, if_true, if_false, Bool.false_eq_true, Nat.add_zero, Nat.zero_add, ne_eq, not_false_eq_true, not_true_eq_false, Nat.not_lt_zero, Nat.add_left_cancel_iff, Nat.add_right_cancel_iff, eq_self, upd_s, pk_sub, nI_pm, Nat.add_sub_cancel, List.length_cons, List.length_nil, Nat.add_eq_zero_iff, Nat.succ_ne_zero, and_false, false_and, l14, l18, l21, l23, l24, l26, l28, l29, l34, l35, l36, l41, l42, l43, l45, l47, l48, l49, l50, l51, l52, l57, l58, l59, l62, l63, l64, l96, l97, l98, l101, l102, l103, l104, l105, l106, l107, l108, l109, l110, l111, l112, l113, l114, l115, l116, l117, l118, l119, l121, l122, l127, l255, l700, l1320, l1000000, e1]
      exact wp_some ⟨rfl, g1.f g2.2⟩
    | inr p =>
      obtain ⟨E, s'⟩ := p
      rw [e] at g2
      have e1 : v = nI 1 := g2.1
      have g3 : XG b n mn s' m E w1 w2 := g2.2
      have g4 : XG b n mn s' m E w w2 := g1.t (F := E) g3
      simp (disch := omega) only [xB_s, xB2_s, xGet_s, xPut_s, xAld_s, xAst_s, xIf_t, xBool_s, l0, l1, l2, l3, l4, l5, l6, l7, l8, l9, l10, l11, l12, l13, l15, l16, l17, l19, l20, l25, l27, l30, l31, l32, l33, l39, l40, l60, l61, l99, l100, l120, l256, l999, l1999, l99999, lm, nI_add, pk_mul, nI_leI, nI_ltI, nI_eq, wuS_1, wuS_2, wuA_1, wuA_21, wuA_22, nI_m1, m1_nI, nIlt_m1, m1lt_nI, Nat.reduceEqDiff, Nat.reduceAdd, Nat.reduceMul, Nat.reduceSub, Nat.reduceLT, Nat.reduceLeDiff, reduceIte, if_true, if_false, Bool.false_eq_true, Nat.add_zero, Nat.zero_add, ne_eq, not_false_eq_true, not_true_eq_false, Nat.not_lt_zero, Nat.add_left_cancel_iff, Nat.add_right_cancel_iff, eq_self, upd_s, pk_sub, nI_pm, Nat.add_sub_cancel, List.length_cons, List.length_nil, Nat.add_eq_zero_iff, Nat.succ_ne_zero, and_false, false_and, l14, l18, l21, l23, l24, l26, l28, l29, l34, l35, l36, l41, l42, l43, l45, l47, l48, l49, l50, l51, l52, l57, l58, l59, l62, l63, l64, l96, l97, l98, l101, l102, l103, l104, l105, l106, l107, l108, l109, l110, l111, l112, l113, l114, l115, l116, l117, l118, l119, l121, l122, l127, l255, l700, l1320, l1000000, e1]
      refine wp_B2 (x_taken (c := 41) g3.2.1 (by omega)) ?_
      intro v2 w3 g5
      rw [rB_r]
      by_cases q2 : kd b n s' = 41
      · rw [if_pos q2] at g5
        rw [if_pos q2]
        have e2 : v2 = nI 1 := g5.1
        have g6 : XG b n mn (nxT b n s') (m + E.length) [] w2 w3 := g5.2
        simp (disch := omega) only [xB_s, xB2_s, xGet_s, xPut_s, xAld_s, xAst_s, xIf_t, xBool_s, l0, l1, l2, l3, l4, l5, l6, l7, l8, l9, l10, l11, l12, l13, l15, l16, l17, l19, l20, l25, l27, l30, l31, l32, l33, l39, l40, l60, l61, l99, l100, l120, l256, l999, l1999, l99999, lm, nI_add, pk_mul, nI_leI, nI_ltI, nI_eq, wuS_1, wuS_2, wuA_1, wuA_21, wuA_22, nI_m1, m1_nI, nIlt_m1, m1lt_nI, Nat.reduceEqDiff, Nat.reduceAdd, Nat.reduceMul, Nat.reduceSub, Nat.reduceLT, Nat.reduceLeDiff, reduceIte, if_true, if_false, Bool.false_eq_true, Nat.add_zero, Nat.zero_add, ne_eq, not_false_eq_true, not_true_eq_false, Nat.not_lt_zero, Nat.add_left_cancel_iff, Nat.add_right_cancel_iff, eq_self, upd_s, pk_sub, nI_pm, Nat.add_sub_cancel, List.length_cons, List.length_nil, Nat.add_eq_zero_iff, Nat.succ_ne_zero, and_false, false_and, l14, l18, l21, l23, l24, l26, l28, l29, l34, l35, l36, l41, l42, l43, l45, l47, l48, l49, l50, l51, l52, l57, l58, l59, l62, l63, l64, l96, l97, l98, l101, l102, l103, l104, l105, l106, l107, l108, l109, l110, l111, l112, l113, l114, l115, l116, l117, l118, l119, l121, l122, l127, l255, l700, l1320, l1000000, e2]
        refine wp_some ⟨rfl, ?_⟩
        have := g4.t g6
        rw [List.append_nil] at this
        exact this
      · rw [if_neg q2] at g5
        rw [if_neg q2]
        have e2 : v2 = nI 0 := g5.1
        simp (disch := omega) only [xB_s, xB2_s, xGet_s, xPut_s, xAld_s, xAst_s, xIf_t, xBool_s, l0, l1, l2, l3, l4, l5, l6, l7, l8, l9, l10, l11, l12, l13, l15, l16, l17, l19, l20, l25, l27, l30, l31, l32, l33, l39, l40, l60, l61, l99, l100, l120, l256, l999, l1999, l99999, lm, nI_add, pk_mul, nI_leI, nI_ltI, nI_eq, wuS_1, wuS_2, wuA_1, wuA_21, wuA_22, nI_m1, m1_nI, nIlt_m1, m1lt_nI, Nat.reduceEqDiff, Nat.reduceAdd, Nat.reduceMul, Nat.reduceSub, Nat.reduceLT, Nat.reduceLeDiff, reduceIte, if_true, if_false, Bool.false_eq_true, Nat.add_zero, Nat.zero_add, ne_eq, not_false_eq_true, not_true_eq_false, Nat.not_lt_zero, Nat.add_left_cancel_iff, Nat.add_right_cancel_iff, eq_self, upd_s, pk_sub, nI_pm, Nat.add_sub_cancel, List.length_cons, List.length_nil, Nat.add_eq_zero_iff, Nat.succ_ne_zero, and_false, false_and, l14, l18, l21, l23, l24, l26, l28, l29, l34, l35, l36, l41, l42, l43, l45, l47, l48, l49, l50, l51, l52, l57, l58, l59, l62, l63, l64, l96, l97, l98, l101, l102, l103, l104, l105, l106, l107, l108, l109, l110, l111, l112, l113, l114, l115, l116, l117, l118, l119, l121, l122, l127, l255, l700, l1320, l1000000, e2]
        exact wp_some ⟨rfl, g4.f g5.2⟩
  · rw [if_neg q1, if_neg q1]
    have rfs : ∀ k, wpO (xB2 (L_X2_refuse o (nI k) w) fun v w => xB (xBool v) fun v => some (v, w)) (XQ b n mn m w (.inl (k, s))) := fun k => by
      refine wp_B2 (x_refuse (k := k) h.1) ?_
      rintro a w' ⟨g1, g2⟩
      have g1 : a = nI 0 := g1
      simp (disch := omega) only [xB_s, xB2_s, xGet_s, xPut_s, xAld_s, xAst_s, xIf_t, xBool_s, l0, l1, l2, l3, l4, l5, l6, l7, l8, l9, l10, l11, l12, l13, l15, l16, l17, l19, l20, l25, l27, l30, l31, l32, l33, l39, l40, l60, l61, l99, l100, l120, l256, l999, l1999, l99999, lm, nI_add, pk_mul, nI_leI, nI_ltI, nI_eq, wuS_1, wuS_2, wuA_1, wuA_21, wuA_22, nI_m1, m1_nI, nIlt_m1, m1lt_nI, Nat.reduceEqDiff, Nat.reduceAdd, Nat.reduceMul, Nat.reduceSub, Nat.reduceLT, Nat.reduceLeDiff, reduceIte, if_true, if_false, Bool.false_eq_true, Nat.add_zero, Nat.zero_add, ne_eq, not_false_eq_true, not_true_eq_false, Nat.not_lt_zero, Nat.add_left_cancel_iff, Nat.add_right_cancel_iff, eq_self, upd_s, pk_sub, nI_pm, Nat.add_sub_cancel, List.length_cons, List.length_nil, Nat.add_eq_zero_iff, Nat.succ_ne_zero, and_false, false_and, l14, l18, l21, l23, l24, l26, l28, l29, l34, l35, l36, l41, l42, l43, l45, l47, l48, l49, l50, l51, l52, l57, l58, l59, l62, l63, l64, l96, l97, l98, l101, l102, l103, l104, l105, l106, l107, l108, l109, l110, l111, l112, l113, l114, l115, l116, l117, l118, l119, l121, l122, l127, l255, l700, l1320, l1000000, g1]
      exact wp_some ⟨rfl, g2⟩
    have em : ∀ x v, kd b n s ≠ 0 → v = xSt x → wpO (xB (L_X7_advance o w) fun w1 => xB2 (L_X2_emit o v w1) fun v2 w3 => xB (xBool v2) fun v4 => some (v4, w3)) (XQ b n mn m w (.inr ([x], nxT b n s))) := fun x v hk0 hv => by
      have hlt : s < n := kd_in rfl hk0
      have := nxT_lt (b := b) hlt
      refine wp_B (x_advT h) ?_
      intro w1 g1
      obtain ⟨p1, p2, p3, p4, p5⟩ := g1.2.1
      have h5' : m + 5 ≤ s := h5
      refine wp_B2 (x_emit (m := m) p1 p2 p3 p4 (by omega) hv) ?_
      rintro a w2 ⟨c1, c2⟩
      have c1 : a = nI 1 := c1
      simp (disch := omega) only [xB_s, xB2_s, xGet_s, xPut_s, xAld_s, xAst_s, xIf_t, xBool_s, l0, l1, l2, l3, l4, l5, l6, l7, l8, l9, l10, l11, l12, l13, l15, l16, l17, l19, l20, l25, l27, l30, l31, l32, l33, l39, l40, l60, l61, l99, l100, l120, l256, l999, l1999, l99999, lm, nI_add, pk_mul, nI_leI, nI_ltI, nI_eq, wuS_1, wuS_2, wuA_1, wuA_21, wuA_22, nI_m1, m1_nI, nIlt_m1, m1lt_nI, Nat.reduceEqDiff, Nat.reduceAdd, Nat.reduceMul, Nat.reduceSub, Nat.reduceLT, Nat.reduceLeDiff, reduceIte, if_true, if_false, Bool.false_eq_true, Nat.add_zero, Nat.zero_add, ne_eq, not_false_eq_true, not_true_eq_false, Nat.not_lt_zero, Nat.add_left_cancel_iff, Nat.add_right_cancel_iff, eq_self, upd_s, pk_sub, nI_pm, Nat.add_sub_cancel, List.length_cons, List.length_nil, Nat.add_eq_zero_iff, Nat.succ_ne_zero, and_false, false_and, l14, l18, l21, l23, l24, l26, l28, l29, l34, l35, l36, l41, l42, l43, l45, l47, l48, l49, l50, l51, l52, l57, l58, l59, l62, l63, l64, l96, l97, l98, l101, l102, l103, l104, l105, l106, l107, l108, l109, l110, l111, l112, l113, l114, l115, l116, l117, l118, l119, l121, l122, l127, l255, l700, l1320, l1000000, c1]
      exact wp_some ⟨rfl, g1.t (F := [x]) c2⟩
    by_cases q2 : kd b n s = 48
    · rw [if_pos q2, if_pos q2]
      have ev := x_value (o := o) h.1 q2
      by_cases q3 : szT b n s ≤ 4
      · have hv := (vl_lt q2 q3).1
        rw [if_pos q3] at ev
        simp (disch := omega) only [xB_s, xB2_s, xGet_s, xPut_s, xAld_s, xAst_s, xIf_t, xBool_s, l0, l1, l2, l3, l4, l5, l6, l7, l8, l9, l10, l11, l12, l13, l15, l16, l17, l19, l20, l25, l27, l30, l31, l32, l33, l39, l40, l60, l61, l99, l100, l120, l256, l999, l1999, l99999, lm, nI_add, pk_mul, nI_leI, nI_ltI, nI_eq, wuS_1, wuS_2, wuA_1, wuA_21, wuA_22, nI_m1, m1_nI, nIlt_m1, m1lt_nI, Nat.reduceEqDiff, Nat.reduceAdd, Nat.reduceMul, Nat.reduceSub, Nat.reduceLT, Nat.reduceLeDiff, reduceIte, if_true, if_false, Bool.false_eq_true, Nat.add_zero, Nat.zero_add, ne_eq, not_false_eq_true, not_true_eq_false, Nat.not_lt_zero, Nat.add_left_cancel_iff, Nat.add_right_cancel_iff, eq_self, upd_s, pk_sub, nI_pm, Nat.add_sub_cancel, List.length_cons, List.length_nil, Nat.add_eq_zero_iff, Nat.succ_ne_zero, and_false, false_and, l14, l18, l21, l23, l24, l26, l28, l29, l34, l35, l36, l41, l42, l43, l45, l47, l48, l49, l50, l51, l52, l57, l58, l59, l62, l63, l64, l96, l97, l98, l101, l102, l103, l104, l105, l106, l107, l108, l109, l110, l111, l112, l113, l114, l115, l116, l117, l118, l119, l121, l122, l127, l255, l700, l1320, l1000000, ev]
        rw [if_pos q3]
        exact em (0, vlA b s (szT b n s)) _ (by omega) rfl
      · rw [if_neg q3] at ev
        simp (disch := omega) only [xB_s, xB2_s, xGet_s, xPut_s, xAld_s, xAst_s, xIf_t, xBool_s, l0, l1, l2, l3, l4, l5, l6, l7, l8, l9, l10, l11, l12, l13, l15, l16, l17, l19, l20, l25, l27, l30, l31, l32, l33, l39, l40, l60, l61, l99, l100, l120, l256, l999, l1999, l99999, lm, nI_add, pk_mul, nI_leI, nI_ltI, nI_eq, wuS_1, wuS_2, wuA_1, wuA_21, wuA_22, nI_m1, m1_nI, nIlt_m1, m1lt_nI, Nat.reduceEqDiff, Nat.reduceAdd, Nat.reduceMul, Nat.reduceSub, Nat.reduceLT, Nat.reduceLeDiff, reduceIte, if_true, if_false, Bool.false_eq_true, Nat.add_zero, Nat.zero_add, ne_eq, not_false_eq_true, not_true_eq_false, Nat.not_lt_zero, Nat.add_left_cancel_iff, Nat.add_right_cancel_iff, eq_self, upd_s, pk_sub, nI_pm, Nat.add_sub_cancel, List.length_cons, List.length_nil, Nat.add_eq_zero_iff, Nat.succ_ne_zero, and_false, false_and, l14, l18, l21, l23, l24, l26, l28, l29, l34, l35, l36, l41, l42, l43, l45, l47, l48, l49, l50, l51, l52, l57, l58, l59, l62, l63, l64, l96, l97, l98, l101, l102, l103, l104, l105, l106, l107, l108, l109, l110, l111, l112, l113, l114, l115, l116, l117, l118, l119, l121, l122, l127, l255, l700, l1320, l1000000, ev]
        rw [if_neg q3]
        exact rfs 2
    · rw [if_neg q2, if_neg q2]
      by_cases q3 : kd b n s = 97
      · rw [if_pos q3, if_pos q3]
        have ev := x_valueT (o := o) h.1 hmn h.2.2.2.1
        cases e : pVal b n mn s with
        | none =>
          rw [e] at ev
          simp (disch := omega) only [xB_s, xB2_s, xGet_s, xPut_s, xAld_s, xAst_s, xIf_t, xBool_s, l0, l1, l2, l3, l4, l5, l6, l7, l8, l9, l10, l11, l12, l13, l15, l16, l17, l19, l20, l25, l27, l30, l31, l32, l33, l39, l40, l60, l61, l99, l100, l120, l256, l999, l1999, l99999, lm, nI_add, pk_mul, nI_leI, nI_ltI, nI_eq, wuS_1, wuS_2, wuA_1, wuA_21, wuA_22, nI_m1, m1_nI, nIlt_m1, m1lt_nI, Nat.reduceEqDiff, Nat.reduceAdd, Nat.reduceMul, Nat.reduceSub, Nat.reduceLT, Nat.reduceLeDiff, reduceIte, if_true, if_false, Bool.false_eq_true, Nat.add_zero, Nat.zero_add, ne_eq, not_false_eq_true, not_true_eq_false, Nat.not_lt_zero, Nat.add_left_cancel_iff, Nat.add_right_cancel_iff, eq_self, upd_s, pk_sub, nI_pm, Nat.add_sub_cancel, List.length_cons, List.length_nil, Nat.add_eq_zero_iff, Nat.succ_ne_zero, and_false, false_and, l14, l18, l21, l23, l24, l26, l28, l29, l34, l35, l36, l41, l42, l43, l45, l47, l48, l49, l50, l51, l52, l57, l58, l59, l62, l63, l64, l96, l97, l98, l101, l102, l103, l104, l105, l106, l107, l108, l109, l110, l111, l112, l113, l114, l115, l116, l117, l118, l119, l121, l122, l127, l255, l700, l1320, l1000000, ev]
          exact rfs 3
        | some k =>
          rw [e] at ev
          have ev : L_X2_valueTold o w = some (xSt (1, k), w) := ev
          have hk7 : k < 7 := by
            unfold pVal at e
            cases e2 : kw b n s with
            | none => rw [e2] at e; cases e
            | some j =>
              rw [e2] at e
              have e : (if j ≤ mn then some j else none) = some k := e
              by_cases z : j ≤ mn
              · rw [if_pos z] at e; obtain rfl := Option.some.inj e; omega
              · rw [if_neg z] at e; cases e
          have nz : ¬ xSt (1, k) = nI 0 := (by decide : ∀ k, k < 7 → ¬ xSt (1, k) = nI 0) k hk7
          rw [ev]
          simp (disch := omega) only [xB_s, xB2_s, xGet_s, xPut_s, xAld_s, xAst_s, xIf_t, xBool_s, l0, l1, l2, l3, l4, l5, l6, l7, l8, l9, l10, l11, l12, l13, l15, l16, l17, l19, l20, l25, l27, l30, l31, l32, l33, l39, l40, l60, l61, l99, l100, l120, l256, l999, l1999, l99999, lm, nI_add, pk_mul, nI_leI, nI_ltI, nI_eq, wuS_1, wuS_2, wuA_1, wuA_21, wuA_22, nI_m1, m1_nI, nIlt_m1, m1lt_nI, Nat.reduceEqDiff, Nat.reduceAdd, Nat.reduceMul, Nat.reduceSub, Nat.reduceLT, Nat.reduceLeDiff, reduceIte, if_true, if_false, Bool.false_eq_true, Nat.add_zero, Nat.zero_add, ne_eq, not_false_eq_true, not_true_eq_false, Nat.not_lt_zero, Nat.add_left_cancel_iff, Nat.add_right_cancel_iff, eq_self, upd_s, pk_sub, nI_pm, Nat.add_sub_cancel, List.length_cons, List.length_nil, Nat.add_eq_zero_iff, Nat.succ_ne_zero, and_false, false_and, l14, l18, l21, l23, l24, l26, l28, l29, l34, l35, l36, l41, l42, l43, l45, l47, l48, l49, l50, l51, l52, l57, l58, l59, l62, l63, l64, l96, l97, l98, l101, l102, l103, l104, l105, l106, l107, l108, l109, l110, l111, l112, l113, l114, l115, l116, l117, l118, l119, l121, l122, l127, l255, l700, l1320, l1000000, nz]
          exact em (1, k) _ (by omega) rfl
      · rw [if_neg q3, if_neg q3]
        exact rfs 1
theorem x_product {b : Nat → Nat} {n mn B d s m : Nat} {rec : Int32 → wS → Option (Int32 × wS)} {pr : Nat → Nat → Res} {o : wO} {w : wS} (hmn : mn = 5 ∨ mn = 6) (hd : d < 100) (hB : 1 ≤ B) (hg : ∀ s, s ≤ n → gR b n s B (pr (d + 1) s)) (hr : ∀ s m w, XP b n mn s m w → wpO (rec (nI (d + 1)) w) (XQ b n mn m w (pr (d + 1) s))) (h : XP b n mn s m w) : wpO (L_X2_product rec o (nI d) w) (XQ b n mn m w (pProd b n mn pr d s)) := by
  have hsub : ∀ s m w, XP b n mn s m w → wpO (L_X2_part rec o (nI d) w) (XQ b n mn m w (pPart b n mn pr d s)) := fun s m w h => x_part (B := B) hmn hd hr h
  unfold L_X2_product pProd
  refine wp_B2 (hsub s m w h) ?_
  intro v w1 g1
  have fin : ∀ R, (R = rB (pPart b n mn pr d s) fun E s1 => pLoop (opM b n) (nxT b n) (pPart b n mn pr d) (n + 1) E s1) → wpO (P_X2_product_8 rec o (fun z16 w17 => J_X2_product_89 rec o z16 w17) 5000 (nI d) v (nI 0) w1) (XQ b n mn m w R) := by
    intro R hR
    have hn := h.1.1.1
    have h5 := h.2.2.2.2
    unfold P_X2_product_8
    have start : ∃ N, N ≤ 702 ∧ ∃ (vv : Int32), v = vv ∧ ((∃ k E s1, N = n + 1 - s1 ∧ vv = nI 1 ∧ pLoop (opM b n) (nxT b n) (pPart b n mn pr d) k E s1 = R ∧ n < s1 + k ∧ 0 ≤ s1 ∧ XG b n mn s1 m E w w1) ∨ (N = 0 ∧ vv = nI 0 ∧ ∃ f, R = .inl f ∧ XF f w w1)) := by
      cases e : pPart b n mn pr d s with
      | inl f =>
        rw [e] at g1 hR
        exact ⟨0, by omega, v, rfl, Or.inr ⟨rfl, g1.1, f, hR, g1.2⟩⟩
      | inr p =>
        obtain ⟨E, s1⟩ := p
        rw [e] at g1 hR
        rw [rB_r] at hR
        exact ⟨n + 1 - s1, by omega, v, rfl, Or.inl ⟨n + 1, E, s1, rfl, g1.1, hR.symm, by omega, by omega, g1.2⟩⟩
    obtain ⟨N, hN, vv, rfl, hI⟩ := start
    refine wp_loop (fun N σ => ∃ i w', ((∃ k E s1, N = n + 1 - s1 ∧ σ = (nI d, nI 1, nI i, w') ∧ pLoop (opM b n) (nxT b n) (pPart b n mn pr d) k E s1 = R ∧ n < s1 + k ∧ i ≤ s1 ∧ XG b n mn s1 m E w w') ∨ (N = 0 ∧ σ = (nI d, nI 0, nI i, w') ∧ i ≤ 701 ∧ ∃ f, R = .inl f ∧ XF f w w'))) ?_ 5000 N _ (by omega) ⟨0, w1, ?_⟩
    · rintro N _ kk ⟨i, w', hI⟩ hkk
      rcases hI with ⟨k, E, s1, rfl, rfl, hp, hk, his, g⟩ | ⟨rfl, rfl, hi7, f, hp, g⟩
      · show wpO (B_X2_product_8 rec o (fun x1 x2 x3 w => kk (x1, x2, x3, w)) _ (nI d) (nI 1) (nI i) w') _
        have g1 := g.2.1
        have hs1 := g1.1.2.1
        have hkd := g1.k
        have done : opM b n s1 = none → wpO (some (nI 1, w')) (XQ b n mn m w R) := fun ho => by
          rw [pLoop_n ho] at hp
          rw [← hp]
          exact wp_some ⟨rfl, g⟩
        have step : ∀ a v2, opM b n s1 = some a → v2 = xSt (3, a) → wpO (xB (L_X7_advance o w') fun w3 => xB2 (L_X2_part rec o (nI d) w3) fun v4 w5 => if v4 = nI 0 then kk (nI d, nI 0, nI (i + 1), w5) else xB2 (L_X2_emit o v2 w5) fun v6 w7 => if v6 = nI 0 then kk (nI d, nI 0, nI (i + 1), w7) else kk (nI d, nI 1, nI (i + 1), w7)) (XQ b n mn m w R) := by
          intro a v2 ho hv
          have hlt := (opM_in ho).1
          have hnx := nxT_lt (b := b) hlt
          have hnx2 := (nxT_le (b := b) hs1).2
          obtain ⟨k', rfl⟩ : ∃ k', k = k' + 1 := ⟨k - 1, by omega⟩
          rw [pLoop_s ho] at hp
          refine wp_B (x_advT g1) ?_
          intro w3 g3
          refine wp_B2 (hsub _ _ w3 g3.2.1) ?_
          intro v4 w5 g4
          have hgs := pPart_g (b := b) (n := n) (mn := mn) (d := d) (by omega) hB hg hnx2
          cases e : pPart b n mn pr d (nxT b n s1) with
          | inl f =>
            rw [e] at g4 hp
            rw [rB_l] at hp
            have c1 : v4 = nI 0 := g4.1
            simp (disch := omega) only [xB_s, xB2_s, xGet_s, xPut_s, xAld_s, xAst_s, xIf_t, xBool_s, l0, l1, l2, l3, l4, l5, l6, l7, l8, l9, l10, l11, l12, l13, l15, l16, l17, l19, l20, l25, l27, l30, l31, l32, l33, l39, l40, l60, l61, l99, l100, l120, l256, l999, l1999, l99999, lm, nI_add, pk_mul, nI_leI, nI_ltI, nI_eq, wuS_1, wuS_2, wuA_1, wuA_21, wuA_22, nI_m1, m1_nI, nIlt_m1, m1lt_nI, Nat.reduceEqDiff, Nat.reduceAdd, Nat.reduceMul, Nat.reduceSub, Nat.reduceLT, Nat.reduceLeDiff, reduceIte, if_true, if_false, Bool.false_eq_true, Nat.add_zero, Nat.zero_add, ne_eq, not_false_eq_true, not_true_eq_false, Nat.not_lt_zero, Nat.add_left_cancel_iff, Nat.add_right_cancel_iff, eq_self, upd_s, pk_sub, nI_pm, Nat.add_sub_cancel, List.length_cons, List.length_nil, Nat.add_eq_zero_iff, Nat.succ_ne_zero, and_false, false_and, l14, l18, l21, l23, l24, l26, l28, l29, l34, l35, l36, l41, l42, l43, l45, l47, l48, l49, l50, l51, l52, l57, l58, l59, l62, l63, l64, l96, l97, l98, l101, l102, l103, l104, l105, l106, l107, l108, l109, l110, l111, l112, l113, l114, l115, l116, l117, l118, l119, l121, l122, l127, l255, l700, l1320, l1000000, c1]
            exact hkk 0 _ (by omega) ⟨i + 1, w5, Or.inr ⟨rfl, rfl, by omega, f, hp.symm, g.f (g3.f g4.2)⟩⟩
          | inr p =>
            obtain ⟨F, s2⟩ := p
            rw [e] at g4 hp hgs
            rw [rB_r] at hp
            obtain ⟨_, l1', l2', _⟩ := hgs
            have c1 : v4 = nI 1 := g4.1
            have g5 : XG b n mn s2 (m + E.length) F w3 w5 := g4.2
            have g6 : XG b n mn s2 (m + E.length) F w' w5 := g3.t (F := F) g5
            obtain ⟨p1, p2, p3, p4, p5⟩ := g5.2.1
            have g15 := g1.2.2.2.2
            simp (disch := omega) only [xB_s, xB2_s, xGet_s, xPut_s, xAld_s, xAst_s, xIf_t, xBool_s, l0, l1, l2, l3, l4, l5, l6, l7, l8, l9, l10, l11, l12, l13, l15, l16, l17, l19, l20, l25, l27, l30, l31, l32, l33, l39, l40, l60, l61, l99, l100, l120, l256, l999, l1999, l99999, lm, nI_add, pk_mul, nI_leI, nI_ltI, nI_eq, wuS_1, wuS_2, wuA_1, wuA_21, wuA_22, nI_m1, m1_nI, nIlt_m1, m1lt_nI, Nat.reduceEqDiff, Nat.reduceAdd, Nat.reduceMul, Nat.reduceSub, Nat.reduceLT, Nat.reduceLeDiff, reduceIte, if_true, if_false, Bool.false_eq_true, Nat.add_zero, Nat.zero_add, ne_eq, not_false_eq_true, not_true_eq_false, Nat.not_lt_zero, Nat.add_left_cancel_iff, Nat.add_right_cancel_iff, eq_self, upd_s, pk_sub, nI_pm, Nat.add_sub_cancel, List.length_cons, List.length_nil, Nat.add_eq_zero_iff, Nat.succ_ne_zero, and_false, false_and, l14, l18, l21, l23, l24, l26, l28, l29, l34, l35, l36, l41, l42, l43, l45, l47, l48, l49, l50, l51, l52, l57, l58, l59, l62, l63, l64, l96, l97, l98, l101, l102, l103, l104, l105, l106, l107, l108, l109, l110, l111, l112, l113, l114, l115, l116, l117, l118, l119, l121, l122, l127, l255, l700, l1320, l1000000, c1]
            refine wp_B2 (x_emit (x := (3, a)) p1 p2 p3 p4 (by omega) hv) ?_
            rintro v6 w7 ⟨c2, c3⟩
            have c2 : v6 = nI 1 := c2
            simp (disch := omega) only [xB_s, xB2_s, xGet_s, xPut_s, xAld_s, xAst_s, xIf_t, xBool_s, l0, l1, l2, l3, l4, l5, l6, l7, l8, l9, l10, l11, l12, l13, l15, l16, l17, l19, l20, l25, l27, l30, l31, l32, l33, l39, l40, l60, l61, l99, l100, l120, l256, l999, l1999, l99999, lm, nI_add, pk_mul, nI_leI, nI_ltI, nI_eq, wuS_1, wuS_2, wuA_1, wuA_21, wuA_22, nI_m1, m1_nI, nIlt_m1, m1lt_nI, Nat.reduceEqDiff, Nat.reduceAdd, Nat.reduceMul, Nat.reduceSub, Nat.reduceLT, Nat.reduceLeDiff, reduceIte, if_true, if_false, Bool.false_eq_true, Nat.add_zero, Nat.zero_add, ne_eq, not_false_eq_true, not_true_eq_false, Nat.not_lt_zero, Nat.add_left_cancel_iff, Nat.add_right_cancel_iff, eq_self, upd_s, pk_sub, nI_pm, Nat.add_sub_cancel, List.length_cons, List.length_nil, Nat.add_eq_zero_iff, Nat.succ_ne_zero, and_false, false_and, l14, l18, l21, l23, l24, l26, l28, l29, l34, l35, l36, l41, l42, l43, l45, l47, l48, l49, l50, l51, l52, l57, l58, l59, l62, l63, l64, l96, l97, l98, l101, l102, l103, l104, l105, l106, l107, l108, l109, l110, l111, l112, l113, l114, l115, l116, l117, l118, l119, l121, l122, l127, l255, l700, l1320, l1000000, c2]
            refine hkk (n + 1 - s2) _ (by omega) ⟨i + 1, w7, Or.inl ⟨k', E ++ (F ++ [(3, a)]), s2, rfl, rfl, hp, by omega, by omega, ?_⟩⟩
            exact g.t (g6.t c3)
        unfold B_X2_product_8 J_X2_product_89 J_X2_product_43 J_X2_product_81 J_X2_product_82
        by_cases h7 : 700 ≤ i
        · simp (disch := omega) only [xB_s, xB2_s, xGet_s, xPut_s, xAld_s, xAst_s, xIf_t, xBool_s, l0, l1, l2, l3, l4, l5, l6, l7, l8, l9, l10, l11, l12, l13, l15, l16, l17, l19, l20, l25, l27, l30, l31, l32, l33, l39, l40, l60, l61, l99, l100, l120, l256, l999, l1999, l99999, lm, nI_add, pk_mul, nI_leI, nI_ltI, nI_eq, wuS_1, wuS_2, wuA_1, wuA_21, wuA_22, nI_m1, m1_nI, nIlt_m1, m1lt_nI, Nat.reduceEqDiff, Nat.reduceAdd, Nat.reduceMul, Nat.reduceSub, Nat.reduceLT, Nat.reduceLeDiff, reduceIte, if_true, if_false, Bool.false_eq_true, Nat.add_zero, Nat.zero_add, ne_eq, not_false_eq_true, not_true_eq_false, Nat.not_lt_zero, Nat.add_left_cancel_iff, Nat.add_right_cancel_iff, eq_self, upd_s, pk_sub, nI_pm, Nat.add_sub_cancel, List.length_cons, List.length_nil, Nat.add_eq_zero_iff, Nat.succ_ne_zero, and_false, false_and, l14, l18, l21, l23, l24, l26, l28, l29, l34, l35, l36, l41, l42, l43, l45, l47, l48, l49, l50, l51, l52, l57, l58, l59, l62, l63, l64, l96, l97, l98, l101, l102, l103, l104, l105, l106, l107, l108, l109, l110, l111, l112, l113, l114, l115, l116, l117, l118, l119, l121, l122, l127, l255, l700, l1320, l1000000, h7, J_X2_product_89]
          refine done ?_
          have : n ≤ s1 := by omega
          unfold opM
          have : kd b n s1 = 0 := by unfold kd; rw [if_pos this]
          rw [if_neg (by omega), if_neg (by omega)]
        · simp (disch := omega) only [xB_s, xB2_s, xGet_s, xPut_s, xAld_s, xAst_s, xIf_t, xBool_s, l0, l1, l2, l3, l4, l5, l6, l7, l8, l9, l10, l11, l12, l13, l15, l16, l17, l19, l20, l25, l27, l30, l31, l32, l33, l39, l40, l60, l61, l99, l100, l120, l256, l999, l1999, l99999, lm, nI_add, pk_mul, nI_leI, nI_ltI, nI_eq, wuS_1, wuS_2, wuA_1, wuA_21, wuA_22, nI_m1, m1_nI, nIlt_m1, m1lt_nI, Nat.reduceEqDiff, Nat.reduceAdd, Nat.reduceMul, Nat.reduceSub, Nat.reduceLT, Nat.reduceLeDiff, reduceIte, if_true, if_false, Bool.false_eq_true, Nat.add_zero, Nat.zero_add, ne_eq, not_false_eq_true, not_true_eq_false, Nat.not_lt_zero, Nat.add_left_cancel_iff, Nat.add_right_cancel_iff, eq_self, upd_s, pk_sub, nI_pm, Nat.add_sub_cancel, List.length_cons, List.length_nil, Nat.add_eq_zero_iff, Nat.succ_ne_zero, and_false, false_and, l14, l18, l21, l23, l24, l26, l28, l29, l34, l35, l36, l41, l42, l43, l45, l47, l48, l49, l50, l51, l52, l57, l58, l59, l62, l63, l64, l96, l97, l98, l101, l102, l103, l104, l105, l106, l107, l108, l109, l110, l111, l112, l113, l114, l115, l116, l117, l118, l119, l121, l122, l127, l255, l700, l1320, l1000000, h7, g1.1.2.2.1, J_X2_product_89]
          by_cases q1 : kd b n s1 = 42
          · rw [if_pos q1, q1]
            exact step 6 _ (by unfold opM; rw [if_pos q1]) (by decide)
          · rw [if_neg q1]
            by_cases q2 : kd b n s1 = 47
            · rw [if_pos q2, q2]
              exact step 7 _ (by unfold opM; rw [if_neg q1, if_pos q2]) (by decide)
            · rw [if_neg q2]
              exact done (by unfold opM; rw [if_neg q1, if_neg q2])
      · show wpO (B_X2_product_8 rec o (fun x1 x2 x3 w => kk (x1, x2, x3, w)) _ (nI d) (nI 0) (nI i) w') _
        unfold B_X2_product_8 J_X2_product_89
        simp (disch := omega) only [xB_s, xB2_s, xGet_s, xPut_s, xAld_s, xAst_s, xIf_t, xBool_s, l0, l1, l2, l3, l4, l5, l6, l7, l8, l9, l10, l11, l12, l13, l15, l16, l17, l19, l20, l25, l27, l30, l31, l32, l33, l39, l40, l60, l61, l99, l100, l120, l256, l999, l1999, l99999, lm, nI_add, pk_mul, nI_leI, nI_ltI, nI_eq, wuS_1, wuS_2, wuA_1, wuA_21, wuA_22, nI_m1, m1_nI, nIlt_m1, m1lt_nI, Nat.reduceEqDiff, Nat.reduceAdd, Nat.reduceMul, Nat.reduceSub, Nat.reduceLT, Nat.reduceLeDiff, reduceIte, if_true, if_false, Bool.false_eq_true, Nat.add_zero, Nat.zero_add, ne_eq, not_false_eq_true, not_true_eq_false, Nat.not_lt_zero, Nat.add_left_cancel_iff, Nat.add_right_cancel_iff, eq_self, upd_s, pk_sub, nI_pm, Nat.add_sub_cancel, List.length_cons, List.length_nil, Nat.add_eq_zero_iff, Nat.succ_ne_zero, and_false, false_and, l14, l18, l21, l23, l24, l26, l28, l29, l34, l35, l36, l41, l42, l43, l45, l47, l48, l49, l50, l51, l52, l57, l58, l59, l62, l63, l64, l96, l97, l98, l101, l102, l103, l104, l105, l106, l107, l108, l109, l110, l111, l112, l113, l114, l115, l116, l117, l118, l119, l121, l122, l127, l255, l700, l1320, l1000000]
        rw [hp]
        split <;> exact wp_some ⟨rfl, g⟩
    · rcases hI with ⟨k, E, s1, a1, a2, a3, a4, a5, a6⟩ | ⟨a1, a2, f, a3, a4⟩
      · exact Or.inl ⟨k, E, s1, a1, by rw [a2], a3, a4, a5, a6⟩
      · exact Or.inr ⟨a1, by rw [a2], by omega, f, a3, a4⟩
  exact fin _ rfl
theorem x_sum {b : Nat → Nat} {n mn B d s m : Nat} {rec : Int32 → wS → Option (Int32 × wS)} {pr : Nat → Nat → Res} {o : wO} {w : wS} (hmn : mn = 5 ∨ mn = 6) (hd : d < 100) (hB : 1 ≤ B) (hg : ∀ s, s ≤ n → gR b n s B (pr (d + 1) s)) (hr : ∀ s m w, XP b n mn s m w → wpO (rec (nI (d + 1)) w) (XQ b n mn m w (pr (d + 1) s))) (h : XP b n mn s m w) : wpO (L_X2_sum rec o (nI d) w) (XQ b n mn m w (pSum b n mn pr d s)) := by
  have hsub : ∀ s m w, XP b n mn s m w → wpO (L_X2_product rec o (nI d) w) (XQ b n mn m w (pProd b n mn pr d s)) := fun s m w h => x_product hmn hd hB hg hr h
  unfold L_X2_sum pSum
  refine wp_B2 (hsub s m w h) ?_
  intro v w1 g1
  have fin : ∀ R, (R = rB (pProd b n mn pr d s) fun E s1 => pLoop (opS b n) (nxT b n) (pProd b n mn pr d) (n + 1) E s1) → wpO (P_X2_sum_8 rec o (fun z16 w17 => J_X2_sum_89 rec o z16 w17) 5000 (nI d) v (nI 0) w1) (XQ b n mn m w R) := by
    intro R hR
    have hn := h.1.1.1
    have h5 := h.2.2.2.2
    unfold P_X2_sum_8
    have start : ∃ N, N ≤ 702 ∧ ∃ (vv : Int32), v = vv ∧ ((∃ k E s1, N = n + 1 - s1 ∧ vv = nI 1 ∧ pLoop (opS b n) (nxT b n) (pProd b n mn pr d) k E s1 = R ∧ n < s1 + k ∧ 0 ≤ s1 ∧ XG b n mn s1 m E w w1) ∨ (N = 0 ∧ vv = nI 0 ∧ ∃ f, R = .inl f ∧ XF f w w1)) := by
      cases e : pProd b n mn pr d s with
      | inl f =>
        rw [e] at g1 hR
        exact ⟨0, by omega, v, rfl, Or.inr ⟨rfl, g1.1, f, hR, g1.2⟩⟩
      | inr p =>
        obtain ⟨E, s1⟩ := p
        rw [e] at g1 hR
        rw [rB_r] at hR
        exact ⟨n + 1 - s1, by omega, v, rfl, Or.inl ⟨n + 1, E, s1, rfl, g1.1, hR.symm, by omega, by omega, g1.2⟩⟩
    obtain ⟨N, hN, vv, rfl, hI⟩ := start
    refine wp_loop (fun N σ => ∃ i w', ((∃ k E s1, N = n + 1 - s1 ∧ σ = (nI d, nI 1, nI i, w') ∧ pLoop (opS b n) (nxT b n) (pProd b n mn pr d) k E s1 = R ∧ n < s1 + k ∧ i ≤ s1 ∧ XG b n mn s1 m E w w') ∨ (N = 0 ∧ σ = (nI d, nI 0, nI i, w') ∧ i ≤ 701 ∧ ∃ f, R = .inl f ∧ XF f w w'))) ?_ 5000 N _ (by omega) ⟨0, w1, ?_⟩
    · rintro N _ kk ⟨i, w', hI⟩ hkk
      rcases hI with ⟨k, E, s1, rfl, rfl, hp, hk, his, g⟩ | ⟨rfl, rfl, hi7, f, hp, g⟩
      · show wpO (B_X2_sum_8 rec o (fun x1 x2 x3 w => kk (x1, x2, x3, w)) _ (nI d) (nI 1) (nI i) w') _
        have g1 := g.2.1
        have hs1 := g1.1.2.1
        have hkd := g1.k
        have done : opS b n s1 = none → wpO (some (nI 1, w')) (XQ b n mn m w R) := fun ho => by
          rw [pLoop_n ho] at hp
          rw [← hp]
          exact wp_some ⟨rfl, g⟩
        have step : ∀ a v2, opS b n s1 = some a → v2 = xSt (3, a) → wpO (xB (L_X7_advance o w') fun w3 => xB2 (L_X2_product rec o (nI d) w3) fun v4 w5 => if v4 = nI 0 then kk (nI d, nI 0, nI (i + 1), w5) else xB2 (L_X2_emit o v2 w5) fun v6 w7 => if v6 = nI 0 then kk (nI d, nI 0, nI (i + 1), w7) else kk (nI d, nI 1, nI (i + 1), w7)) (XQ b n mn m w R) := by
          intro a v2 ho hv
          have hlt := (opS_in ho).1
          have hnx := nxT_lt (b := b) hlt
          have hnx2 := (nxT_le (b := b) hs1).2
          obtain ⟨k', rfl⟩ : ∃ k', k = k' + 1 := ⟨k - 1, by omega⟩
          rw [pLoop_s ho] at hp
          refine wp_B (x_advT g1) ?_
          intro w3 g3
          refine wp_B2 (hsub _ _ w3 g3.2.1) ?_
          intro v4 w5 g4
          have hgs := pProd_g (b := b) (n := n) (mn := mn) (d := d) (by omega) hB hg hnx2
          cases e : pProd b n mn pr d (nxT b n s1) with
          | inl f =>
            rw [e] at g4 hp
            rw [rB_l] at hp
            have c1 : v4 = nI 0 := g4.1
            simp (disch := omega) only [xB_s, xB2_s, xGet_s, xPut_s, xAld_s, xAst_s, xIf_t, xBool_s, l0, l1, l2, l3, l4, l5, l6, l7, l8, l9, l10, l11, l12, l13, l15, l16, l17, l19, l20, l25, l27, l30, l31, l32, l33, l39, l40, l60, l61, l99, l100, l120, l256, l999, l1999, l99999, lm, nI_add, pk_mul, nI_leI, nI_ltI, nI_eq, wuS_1, wuS_2, wuA_1, wuA_21, wuA_22, nI_m1, m1_nI, nIlt_m1, m1lt_nI, Nat.reduceEqDiff, Nat.reduceAdd, Nat.reduceMul, Nat.reduceSub, Nat.reduceLT, Nat.reduceLeDiff, reduceIte, if_true, if_false, Bool.false_eq_true, Nat.add_zero, Nat.zero_add, ne_eq, not_false_eq_true, not_true_eq_false, Nat.not_lt_zero, Nat.add_left_cancel_iff, Nat.add_right_cancel_iff, eq_self, upd_s, pk_sub, nI_pm, Nat.add_sub_cancel, List.length_cons, List.length_nil, Nat.add_eq_zero_iff, Nat.succ_ne_zero, and_false, false_and, l14, l18, l21, l23, l24, l26, l28, l29, l34, l35, l36, l41, l42, l43, l45, l47, l48, l49, l50, l51, l52, l57, l58, l59, l62, l63, l64, l96, l97, l98, l101, l102, l103, l104, l105, l106, l107, l108, l109, l110, l111, l112, l113, l114, l115, l116, l117, l118, l119, l121, l122, l127, l255, l700, l1320, l1000000, c1]
            exact hkk 0 _ (by omega) ⟨i + 1, w5, Or.inr ⟨rfl, rfl, by omega, f, hp.symm, g.f (g3.f g4.2)⟩⟩
          | inr p =>
            obtain ⟨F, s2⟩ := p
            rw [e] at g4 hp hgs
            rw [rB_r] at hp
            obtain ⟨_, l1', l2', _⟩ := hgs
            have c1 : v4 = nI 1 := g4.1
            have g5 : XG b n mn s2 (m + E.length) F w3 w5 := g4.2
            have g6 : XG b n mn s2 (m + E.length) F w' w5 := g3.t (F := F) g5
            obtain ⟨p1, p2, p3, p4, p5⟩ := g5.2.1
            have g15 := g1.2.2.2.2
            simp (disch := omega) only [xB_s, xB2_s, xGet_s, xPut_s, xAld_s, xAst_s, xIf_t, xBool_s, l0, l1, l2, l3, l4, l5, l6, l7, l8, l9, l10, l11, l12, l13, l15, l16, l17, l19, l20, l25, l27, l30, l31, l32, l33, l39, l40, l60, l61, l99, l100, l120, l256, l999, l1999, l99999, lm, nI_add, pk_mul, nI_leI, nI_ltI, nI_eq, wuS_1, wuS_2, wuA_1, wuA_21, wuA_22, nI_m1, m1_nI, nIlt_m1, m1lt_nI, Nat.reduceEqDiff, Nat.reduceAdd, Nat.reduceMul, Nat.reduceSub, Nat.reduceLT, Nat.reduceLeDiff, reduceIte, if_true, if_false, Bool.false_eq_true, Nat.add_zero, Nat.zero_add, ne_eq, not_false_eq_true, not_true_eq_false, Nat.not_lt_zero, Nat.add_left_cancel_iff, Nat.add_right_cancel_iff, eq_self, upd_s, pk_sub, nI_pm, Nat.add_sub_cancel, List.length_cons, List.length_nil, Nat.add_eq_zero_iff, Nat.succ_ne_zero, and_false, false_and, l14, l18, l21, l23, l24, l26, l28, l29, l34, l35, l36, l41, l42, l43, l45, l47, l48, l49, l50, l51, l52, l57, l58, l59, l62, l63, l64, l96, l97, l98, l101, l102, l103, l104, l105, l106, l107, l108, l109, l110, l111, l112, l113, l114, l115, l116, l117, l118, l119, l121, l122, l127, l255, l700, l1320, l1000000, c1]
            refine wp_B2 (x_emit (x := (3, a)) p1 p2 p3 p4 (by omega) hv) ?_
            rintro v6 w7 ⟨c2, c3⟩
            have c2 : v6 = nI 1 := c2
            simp (disch := omega) only [xB_s, xB2_s, xGet_s, xPut_s, xAld_s, xAst_s, xIf_t, xBool_s, l0, l1, l2, l3, l4, l5, l6, l7, l8, l9, l10, l11, l12, l13, l15, l16, l17, l19, l20, l25, l27, l30, l31, l32, l33, l39, l40, l60, l61, l99, l100, l120, l256, l999, l1999, l99999, lm, nI_add, pk_mul, nI_leI, nI_ltI, nI_eq, wuS_1, wuS_2, wuA_1, wuA_21, wuA_22, nI_m1, m1_nI, nIlt_m1, m1lt_nI, Nat.reduceEqDiff, Nat.reduceAdd, Nat.reduceMul, Nat.reduceSub, Nat.reduceLT, Nat.reduceLeDiff, reduceIte, if_true, if_false, Bool.false_eq_true, Nat.add_zero, Nat.zero_add, ne_eq, not_false_eq_true, not_true_eq_false, Nat.not_lt_zero, Nat.add_left_cancel_iff, Nat.add_right_cancel_iff, eq_self, upd_s, pk_sub, nI_pm, Nat.add_sub_cancel, List.length_cons, List.length_nil, Nat.add_eq_zero_iff, Nat.succ_ne_zero, and_false, false_and, l14, l18, l21, l23, l24, l26, l28, l29, l34, l35, l36, l41, l42, l43, l45, l47, l48, l49, l50, l51, l52, l57, l58, l59, l62, l63, l64, l96, l97, l98, l101, l102, l103, l104, l105, l106, l107, l108, l109, l110, l111, l112, l113, l114, l115, l116, l117, l118, l119, l121, l122, l127, l255, l700, l1320, l1000000, c2]
            refine hkk (n + 1 - s2) _ (by omega) ⟨i + 1, w7, Or.inl ⟨k', E ++ (F ++ [(3, a)]), s2, rfl, rfl, hp, by omega, by omega, ?_⟩⟩
            exact g.t (g6.t c3)
        unfold B_X2_sum_8 J_X2_sum_89 J_X2_sum_43 J_X2_sum_81 J_X2_sum_82
        by_cases h7 : 700 ≤ i
        · simp (disch := omega) only [xB_s, xB2_s, xGet_s, xPut_s, xAld_s, xAst_s, xIf_t, xBool_s, l0, l1, l2, l3, l4, l5, l6, l7, l8, l9, l10, l11, l12, l13, l15, l16, l17, l19, l20, l25, l27, l30, l31, l32, l33, l39, l40, l60, l61, l99, l100, l120, l256, l999, l1999, l99999, lm, nI_add, pk_mul, nI_leI, nI_ltI, nI_eq, wuS_1, wuS_2, wuA_1, wuA_21, wuA_22, nI_m1, m1_nI, nIlt_m1, m1lt_nI, Nat.reduceEqDiff, Nat.reduceAdd, Nat.reduceMul, Nat.reduceSub, Nat.reduceLT, Nat.reduceLeDiff, reduceIte, if_true, if_false, Bool.false_eq_true, Nat.add_zero, Nat.zero_add, ne_eq, not_false_eq_true, not_true_eq_false, Nat.not_lt_zero, Nat.add_left_cancel_iff, Nat.add_right_cancel_iff, eq_self, upd_s, pk_sub, nI_pm, Nat.add_sub_cancel, List.length_cons, List.length_nil, Nat.add_eq_zero_iff, Nat.succ_ne_zero, and_false, false_and, l14, l18, l21, l23, l24, l26, l28, l29, l34, l35, l36, l41, l42, l43, l45, l47, l48, l49, l50, l51, l52, l57, l58, l59, l62, l63, l64, l96, l97, l98, l101, l102, l103, l104, l105, l106, l107, l108, l109, l110, l111, l112, l113, l114, l115, l116, l117, l118, l119, l121, l122, l127, l255, l700, l1320, l1000000, h7, J_X2_sum_89]
          refine done ?_
          have : n ≤ s1 := by omega
          unfold opS
          have : kd b n s1 = 0 := by unfold kd; rw [if_pos this]
          rw [if_neg (by omega), if_neg (by omega)]
        · simp (disch := omega) only [xB_s, xB2_s, xGet_s, xPut_s, xAld_s, xAst_s, xIf_t, xBool_s, l0, l1, l2, l3, l4, l5, l6, l7, l8, l9, l10, l11, l12, l13, l15, l16, l17, l19, l20, l25, l27, l30, l31, l32, l33, l39, l40, l60, l61, l99, l100, l120, l256, l999, l1999, l99999, lm, nI_add, pk_mul, nI_leI, nI_ltI, nI_eq, wuS_1, wuS_2, wuA_1, wuA_21, wuA_22, nI_m1, m1_nI, nIlt_m1, m1lt_nI, Nat.reduceEqDiff, Nat.reduceAdd, Nat.reduceMul, Nat.reduceSub, Nat.reduceLT, Nat.reduceLeDiff, reduceIte, if_true, if_false, Bool.false_eq_true, Nat.add_zero, Nat.zero_add, ne_eq, not_false_eq_true, not_true_eq_false, Nat.not_lt_zero, Nat.add_left_cancel_iff, Nat.add_right_cancel_iff, eq_self, upd_s, pk_sub, nI_pm, Nat.add_sub_cancel, List.length_cons, List.length_nil, Nat.add_eq_zero_iff, Nat.succ_ne_zero, and_false, false_and, l14, l18, l21, l23, l24, l26, l28, l29, l34, l35, l36, l41, l42, l43, l45, l47, l48, l49, l50, l51, l52, l57, l58, l59, l62, l63, l64, l96, l97, l98, l101, l102, l103, l104, l105, l106, l107, l108, l109, l110, l111, l112, l113, l114, l115, l116, l117, l118, l119, l121, l122, l127, l255, l700, l1320, l1000000, h7, g1.1.2.2.1, J_X2_sum_89]
          by_cases q1 : kd b n s1 = 43
          · rw [if_pos q1, q1]
            exact step 4 _ (by unfold opS; rw [if_pos q1]) (by decide)
          · rw [if_neg q1]
            by_cases q2 : kd b n s1 = 45
            · rw [if_pos q2, q2]
              exact step 5 _ (by unfold opS; rw [if_neg q1, if_pos q2]) (by decide)
            · rw [if_neg q2]
              exact done (by unfold opS; rw [if_neg q1, if_neg q2])
      · show wpO (B_X2_sum_8 rec o (fun x1 x2 x3 w => kk (x1, x2, x3, w)) _ (nI d) (nI 0) (nI i) w') _
        unfold B_X2_sum_8 J_X2_sum_89
        simp (disch := omega) only [xB_s, xB2_s, xGet_s, xPut_s, xAld_s, xAst_s, xIf_t, xBool_s, l0, l1, l2, l3, l4, l5, l6, l7, l8, l9, l10, l11, l12, l13, l15, l16, l17, l19, l20, l25, l27, l30, l31, l32, l33, l39, l40, l60, l61, l99, l100, l120, l256, l999, l1999, l99999, lm, nI_add, pk_mul, nI_leI, nI_ltI, nI_eq, wuS_1, wuS_2, wuA_1, wuA_21, wuA_22, nI_m1, m1_nI, nIlt_m1, m1lt_nI, Nat.reduceEqDiff, Nat.reduceAdd, Nat.reduceMul, Nat.reduceSub, Nat.reduceLT, Nat.reduceLeDiff, reduceIte, if_true, if_false, Bool.false_eq_true, Nat.add_zero, Nat.zero_add, ne_eq, not_false_eq_true, not_true_eq_false, Nat.not_lt_zero, Nat.add_left_cancel_iff, Nat.add_right_cancel_iff, eq_self, upd_s, pk_sub, nI_pm, Nat.add_sub_cancel, List.length_cons, List.length_nil, Nat.add_eq_zero_iff, Nat.succ_ne_zero, and_false, false_and, l14, l18, l21, l23, l24, l26, l28, l29, l34, l35, l36, l41, l42, l43, l45, l47, l48, l49, l50, l51, l52, l57, l58, l59, l62, l63, l64, l96, l97, l98, l101, l102, l103, l104, l105, l106, l107, l108, l109, l110, l111, l112, l113, l114, l115, l116, l117, l118, l119, l121, l122, l127, l255, l700, l1320, l1000000]
        rw [hp]
        split <;> exact wp_some ⟨rfl, g⟩
    · rcases hI with ⟨k, E, s1, a1, a2, a3, a4, a5, a6⟩ | ⟨a1, a2, f, a3, a4⟩
      · exact Or.inl ⟨k, E, s1, a1, by rw [a2], a3, a4, a5, a6⟩
      · exact Or.inr ⟨a1, by rw [a2], by omega, f, a3, a4⟩
  exact fin _ rfl
theorem x_compared {b : Nat → Nat} {n mn B d s m : Nat} {rec : Int32 → wS → Option (Int32 × wS)} {pr : Nat → Nat → Res} {o : wO} {w : wS} (hmn : mn = 5 ∨ mn = 6) (hd : d < 100) (hB : 1 ≤ B) (hg : ∀ s, s ≤ n → gR b n s B (pr (d + 1) s)) (hr : ∀ s m w, XP b n mn s m w → wpO (rec (nI (d + 1)) w) (XQ b n mn m w (pr (d + 1) s))) (h : XP b n mn s m w) : wpO (L_X2_compared rec o (nI d) w) (XQ b n mn m w (pCmp b n mn pr d s)) := by
  have hsub : ∀ s m w, XP b n mn s m w → wpO (L_X2_sum rec o (nI d) w) (XQ b n mn m w (pSum b n mn pr d s)) := fun s m w h => x_sum hmn hd hB hg hr h
  unfold L_X2_compared pCmp
  refine wp_B2 (hsub s m w h) ?_
  intro v w1 g1
  cases e : pSum b n mn pr d s with
  | inl f =>
    rw [e] at g1
    have c1 : v = nI 0 := g1.1
    simp (disch := omega) only [xB_s, xB2_s, xGet_s, xPut_s, xAld_s, xAst_s, xIf_t, xBool_s, l0, l1, l2, l3, l4, l5, l6, l7, l8, l9, l10, l11, l12, l13, l15, l16, l17, l19, l20, l25, l27, l30, l31, l32, l33, l39, l40, l60, l61, l99, l100, l120, l256, l999, l1999, l99999, lm, nI_add, pk_mul, nI_leI, nI_ltI, nI_eq, wuS_1, wuS_2, wuA_1, wuA_21, wuA_22, nI_m1, m1_nI, nIlt_m1, m1lt_nI, Nat.reduceEqDiff, Nat.reduceAdd, Nat.reduceMul, Nat.reduceSub, Nat.reduceLT, Nat.reduceLeDiff, reduceIte, if_true, if_false, Bool.false_eq_true, Nat.add_zero, Nat.zero_add, ne_eq, not_false_eq_true, not_true_eq_false, Nat.not_lt_zero, Nat.add_left_cancel_iff, Nat.add_right_cancel_iff, eq_self, upd_s, pk_sub, nI_pm, Nat.add_sub_cancel, List.length_cons, List.length_nil, Nat.add_eq_zero_iff, Nat.succ_ne_zero, and_false, false_and, l14, l18, l21, l23, l24, l26, l28, l29, l34, l35, l36, l41, l42, l43, l45, l47, l48, l49, l50, l51, l52, l57, l58, l59, l62, l63, l64, l96, l97, l98, l101, l102, l103, l104, l105, l106, l107, l108, l109, l110, l111, l112, l113, l114, l115, l116, l117, l118, l119, l121, l122, l127, l255, l700, l1320, l1000000, c1]
    exact wp_some ⟨rfl, g1.2⟩
  | inr p =>
    obtain ⟨E, s1⟩ := p
    rw [e] at g1
    have c1 : v = nI 1 := g1.1
    have g : XG b n mn s1 m E w w1 := g1.2
    have gp := g.2.1
    have hkd := gp.k
    have hs1 := gp.1.2.1
    have hn := gp.1.1.1
    rw [rB_r]
    simp (disch := omega) only [xB_s, xB2_s, xGet_s, xPut_s, xAld_s, xAst_s, xIf_t, xBool_s, l0, l1, l2, l3, l4, l5, l6, l7, l8, l9, l10, l11, l12, l13, l15, l16, l17, l19, l20, l25, l27, l30, l31, l32, l33, l39, l40, l60, l61, l99, l100, l120, l256, l999, l1999, l99999, lm, nI_add, pk_mul, nI_leI, nI_ltI, nI_eq, wuS_1, wuS_2, wuA_1, wuA_21, wuA_22, nI_m1, m1_nI, nIlt_m1, m1lt_nI, Nat.reduceEqDiff, Nat.reduceAdd, Nat.reduceMul, Nat.reduceSub, Nat.reduceLT, Nat.reduceLeDiff, reduceIte, if_true, if_false, Bool.false_eq_true, Nat.add_zero, Nat.zero_add, ne_eq, not_false_eq_true, not_true_eq_false, Nat.not_lt_zero, Nat.add_left_cancel_iff, Nat.add_right_cancel_iff, eq_self, upd_s, pk_sub, nI_pm, Nat.add_sub_cancel, List.length_cons, List.length_nil, Nat.add_eq_zero_iff, Nat.succ_ne_zero, and_false, false_and, l14, l18, l21, l23, l24, l26, l28, l29, l34, l35, l36, l41, l42, l43, l45, l47, l48, l49, l50, l51, l52, l57, l58, l59, l62, l63, l64, l96, l97, l98, l101, l102, l103, l104, l105, l106, l107, l108, l109, l110, l111, l112, l113, l114, l115, l116, l117, l118, l119, l121, l122, l127, l255, l700, l1320, l1000000, c1, gp.1.2.2.1]
    have step : ∀ a c v2, opC b n s1 = some a → v2 = nI c → -v2 = xSt (3, a) → wpO (J_X2_compared_32 rec o (nI d) v2 w1) (XQ b n mn m w (rB (pSum b n mn pr d (nxT b n s1)) fun F s2 => .inr (E ++ (F ++ [(3, a)]), s2))) := by
      intro a c v2 ho hv2 hv
      have hlt := (opC_in ho).1
      have hnx := nxT_lt (b := b) hlt
      have hnx2 := (nxT_le (b := b) hs1).2
      have hgs := pSum_g (b := b) (n := n) (mn := mn) (d := d) (by omega) hB hg hnx2
      unfold J_X2_compared_32 J_X2_compared_60 J_X2_compared_61
      refine wp_B (x_advT gp) ?_
      intro w3 g3
      refine wp_B2 (hsub _ _ w3 g3.2.1) ?_
      intro v4 w5 g4
      cases e2 : pSum b n mn pr d (nxT b n s1) with
      | inl f =>
        rw [e2] at g4
        have c1 : v4 = nI 0 := g4.1
        simp (disch := omega) only [xB_s, xB2_s, xGet_s, xPut_s, xAld_s, xAst_s, xIf_t, xBool_s, l0, l1, l2, l3, l4, l5, l6, l7, l8, l9, l10, l11, l12, l13, l15, l16, l17, l19, l20, l25, l27, l30, l31, l32, l33, l39, l40, l60, l61, l99, l100, l120, l256, l999, l1999, l99999, lm, nI_add, pk_mul, nI_leI, nI_ltI, nI_eq, wuS_1, wuS_2, wuA_1, wuA_21, wuA_22, nI_m1, m1_nI, nIlt_m1, m1lt_nI, Nat.reduceEqDiff, Nat.reduceAdd, Nat.reduceMul, Nat.reduceSub, Nat.reduceLT, Nat.reduceLeDiff, reduceIte, if_true, if_false, Bool.false_eq_true, Nat.add_zero, Nat.zero_add, ne_eq, not_false_eq_true, not_true_eq_false, Nat.not_lt_zero, Nat.add_left_cancel_iff, Nat.add_right_cancel_iff, eq_self, upd_s, pk_sub, nI_pm, Nat.add_sub_cancel, List.length_cons, List.length_nil, Nat.add_eq_zero_iff, Nat.succ_ne_zero, and_false, false_and, l14, l18, l21, l23, l24, l26, l28, l29, l34, l35, l36, l41, l42, l43, l45, l47, l48, l49, l50, l51, l52, l57, l58, l59, l62, l63, l64, l96, l97, l98, l101, l102, l103, l104, l105, l106, l107, l108, l109, l110, l111, l112, l113, l114, l115, l116, l117, l118, l119, l121, l122, l127, l255, l700, l1320, l1000000, c1]
        exact wp_some ⟨rfl, g.f (g3.f g4.2)⟩
      | inr p =>
        obtain ⟨F, s2⟩ := p
        rw [e2] at g4 hgs
        obtain ⟨_, l1', l2', _⟩ := hgs
        have c1 : v4 = nI 1 := g4.1
        have g5 : XG b n mn s2 (m + E.length) F w3 w5 := g4.2
        have g6 : XG b n mn s2 (m + E.length) F w1 w5 := g3.t (F := F) g5
        obtain ⟨p1, p2, p3, p4, p5⟩ := g5.2.1
        have g15 := gp.2.2.2.2
        simp (disch := omega) only [xB_s, xB2_s, xGet_s, xPut_s, xAld_s, xAst_s, xIf_t, xBool_s, l0, l1, l2, l3, l4, l5, l6, l7, l8, l9, l10, l11, l12, l13, l15, l16, l17, l19, l20, l25, l27, l30, l31, l32, l33, l39, l40, l60, l61, l99, l100, l120, l256, l999, l1999, l99999, lm, nI_add, pk_mul, nI_leI, nI_ltI, nI_eq, wuS_1, wuS_2, wuA_1, wuA_21, wuA_22, nI_m1, m1_nI, nIlt_m1, m1lt_nI, Nat.reduceEqDiff, Nat.reduceAdd, Nat.reduceMul, Nat.reduceSub, Nat.reduceLT, Nat.reduceLeDiff, reduceIte, if_true, if_false, Bool.false_eq_true, Nat.add_zero, Nat.zero_add, ne_eq, not_false_eq_true, not_true_eq_false, Nat.not_lt_zero, Nat.add_left_cancel_iff, Nat.add_right_cancel_iff, eq_self, upd_s, pk_sub, nI_pm, Nat.add_sub_cancel, List.length_cons, List.length_nil, Nat.add_eq_zero_iff, Nat.succ_ne_zero, and_false, false_and, l14, l18, l21, l23, l24, l26, l28, l29, l34, l35, l36, l41, l42, l43, l45, l47, l48, l49, l50, l51, l52, l57, l58, l59, l62, l63, l64, l96, l97, l98, l101, l102, l103, l104, l105, l106, l107, l108, l109, l110, l111, l112, l113, l114, l115, l116, l117, l118, l119, l121, l122, l127, l255, l700, l1320, l1000000, c1]
        refine wp_B2 (x_emit (x := (3, a)) p1 p2 p3 p4 (by omega) hv) ?_
        rintro v6 w7 ⟨c2, c3⟩
        have c2 : v6 = nI 1 := c2
        simp (disch := omega) only [xB_s, xB2_s, xGet_s, xPut_s, xAld_s, xAst_s, xIf_t, xBool_s, l0, l1, l2, l3, l4, l5, l6, l7, l8, l9, l10, l11, l12, l13, l15, l16, l17, l19, l20, l25, l27, l30, l31, l32, l33, l39, l40, l60, l61, l99, l100, l120, l256, l999, l1999, l99999, lm, nI_add, pk_mul, nI_leI, nI_ltI, nI_eq, wuS_1, wuS_2, wuA_1, wuA_21, wuA_22, nI_m1, m1_nI, nIlt_m1, m1lt_nI, Nat.reduceEqDiff, Nat.reduceAdd, Nat.reduceMul, Nat.reduceSub, Nat.reduceLT, Nat.reduceLeDiff, reduceIte, if_true, if_false, Bool.false_eq_true, Nat.add_zero, Nat.zero_add, ne_eq, not_false_eq_true, not_true_eq_false, Nat.not_lt_zero, Nat.add_left_cancel_iff, Nat.add_right_cancel_iff, eq_self, upd_s, pk_sub, nI_pm, Nat.add_sub_cancel, List.length_cons, List.length_nil, Nat.add_eq_zero_iff, Nat.succ_ne_zero, and_false, false_and, l14, l18, l21, l23, l24, l26, l28, l29, l34, l35, l36, l41, l42, l43, l45, l47, l48, l49, l50, l51, l52, l57, l58, l59, l62, l63, l64, l96, l97, l98, l101, l102, l103, l104, l105, l106, l107, l108, l109, l110, l111, l112, l113, l114, l115, l116, l117, l118, l119, l121, l122, l127, l255, l700, l1320, l1000000, c2]
        rw [rB_r]
        exact wp_some ⟨rfl, g.t (g6.t c3)⟩
    by_cases q1 : kd b n s1 = 60
    · have ho : opC b n s1 = some 2 := by unfold opC; rw [if_pos q1]
      rw [if_pos q1, q1, ho]
      exact step 2 60 _ ho rfl (by decide)
    · rw [if_neg q1]
      by_cases q2 : kd b n s1 = 61
      · have ho : opC b n s1 = some 3 := by unfold opC; rw [if_neg q1, if_pos q2]
        rw [if_pos q2, q2, ho]
        exact step 3 61 _ ho rfl (by decide)
      · have ho : opC b n s1 = none := by unfold opC; rw [if_neg q1, if_neg q2]
        rw [if_neg q2, ho]
        exact wp_some ⟨rfl, g⟩
theorem pNots_y {b : Nat → Nat} {n mn d k j s : Nat} {pr : Nat → Nat → Res} (hw : kw b n s = some 15) (hj : ¬ j = 6) : pNots b n mn pr d (k + 1) j s = pNots b n mn pr d k (j + 1) (nxT b n s) := by
  show (if kw b n s = some 15 then (if j = 6 then _ else pNots b n mn pr d k (j + 1) (nxT b n s)) else _) = _
  rw [if_pos hw, if_neg hj]
theorem pNots_6 {b : Nat → Nat} {n mn d k j s : Nat} {pr : Nat → Nat → Res} (hw : kw b n s = some 15) (hj : j = 6) : pNots b n mn pr d (k + 1) j s = .inl (2, s) := by
  show (if kw b n s = some 15 then (if j = 6 then _ else pNots b n mn pr d k (j + 1) (nxT b n s)) else _) = _
  rw [if_pos hw, if_pos hj]
theorem pNots_n {b : Nat → Nat} {n mn d k j s : Nat} {pr : Nat → Nat → Res} (hw : ¬ kw b n s = some 15) : pNots b n mn pr d (k + 1) j s = rB (pCmp b n mn pr d s) fun E s1 => .inr (E ++ List.replicate j (2, 0), s1) := by
  show (if kw b n s = some 15 then (if j = 6 then _ else pNots b n mn pr d k (j + 1) (nxT b n s)) else _) = _
  rw [if_neg hw]
theorem x_denied {b : Nat → Nat} {n mn B d s m : Nat} {rec : Int32 → wS → Option (Int32 × wS)} {pr : Nat → Nat → Res} {o : wO} {w : wS} (hmn : mn = 5 ∨ mn = 6) (hd : d < 100) (hB : 1 ≤ B) (hg : ∀ s, s ≤ n → gR b n s B (pr (d + 1) s)) (hr : ∀ s m w, XP b n mn s m w → wpO (rec (nI (d + 1)) w) (XQ b n mn m w (pr (d + 1) s))) (h : XP b n mn s m w) : wpO (L_X2_denied rec o (nI d) w) (XQ b n mn m w (pNot b n mn pr d s)) := by
  unfold L_X2_denied P_X2_denied_4 pNot
  simp (disch := omega) only [xB_s, xB2_s, xGet_s, xPut_s, xAld_s, xAst_s, xIf_t, xBool_s, l0, l1, l2, l3, l4, l5, l6, l7, l8, l9, l10, l11, l12, l13, l15, l16, l17, l19, l20, l25, l27, l30, l31, l32, l33, l39, l40, l60, l61, l99, l100, l120, l256, l999, l1999, l99999, lm, nI_add, pk_mul, nI_leI, nI_ltI, nI_eq, wuS_1, wuS_2, wuA_1, wuA_21, wuA_22, nI_m1, m1_nI, nIlt_m1, m1lt_nI, Nat.reduceEqDiff, Nat.reduceAdd, Nat.reduceMul, Nat.reduceSub, Nat.reduceLT, Nat.reduceLeDiff, reduceIte, if_true, if_false, Bool.false_eq_true, Nat.add_zero, Nat.zero_add, ne_eq, not_false_eq_true, not_true_eq_false, Nat.not_lt_zero, Nat.add_left_cancel_iff, Nat.add_right_cancel_iff, eq_self, upd_s, pk_sub, nI_pm, Nat.add_sub_cancel, List.length_cons, List.length_nil, Nat.add_eq_zero_iff, Nat.succ_ne_zero, and_false, false_and, l14, l18, l21, l23, l24, l26, l28, l29, l34, l35, l36, l41, l42, l43, l45, l47, l48, l49, l50, l51, l52, l57, l58, l59, l62, l63, l64, l96, l97, l98, l101, l102, l103, l104, l105, l106, l107, l108, l109, l110, l111, l112, l113, l114, l115, l116, l117, l118, l119, l121, l122, l127, l255, l700, l1320, l1000000]
  refine wp_for 6 (fun j σ => ∃ w' s1, σ = (nI d, nI j, nI j, w') ∧ XG b n mn s1 m [] w w' ∧ s + j ≤ s1 ∧ pNots b n mn pr d 8 0 s = pNots b n mn pr d (8 - j) j s1) ?_ (i := 0) (by omega) (by omega) ⟨w, s, rfl, h.r, by omega, rfl⟩
  rintro j _ kk hj ⟨w', s1, rfl, g, hs, hp⟩ hkk
  show wpO (B_X2_denied_4 rec o (fun x1 x2 x3 w => kk (x1, x2, x3, w)) _ _ (nI d) (nI j) (nI j) w') _
  have gp := g.2.1
  have hs1 := gp.1.2.1
  have hn := gp.1.1.1
  obtain ⟨k, hk⟩ : ∃ k, 8 - j = k + 1 := ⟨7 - j, by omega⟩
  rw [hk] at hp
  unfold B_X2_denied_4
  have ei := x_is15 (o := o) gp.1
  by_cases q1 : wIs b n s1 (wl 15)
  · rw [if_pos q1] at ei
    have hw := (kw_iff (by omega)).mpr q1
    simp (disch := omega) only [xB_s, xB2_s, xGet_s, xPut_s, xAld_s, xAst_s, xIf_t, xBool_s, l0, l1, l2, l3, l4, l5, l6, l7, l8, l9, l10, l11, l12, l13, l15, l16, l17, l19, l20, l25, l27, l30, l31, l32, l33, l39, l40, l60, l61, l99, l100, l120, l256, l999, l1999, l99999, lm, nI_add, pk_mul, nI_leI, nI_ltI, nI_eq, wuS_1, wuS_2, wuA_1, wuA_21, wuA_22, nI_m1, m1_nI, nIlt_m1, m1lt_nI, Nat.reduceEqDiff, Nat.reduceAdd, Nat.reduceMul, Nat.reduceSub, Nat.reduceLT, Nat.reduceLeDiff, reduceIte, if_true, if_false, Bool.false_eq_true, Nat.add_zero, Nat.zero_add, ne_eq, not_false_eq_true, not_true_eq_false, Nat.not_lt_zero, Nat.add_left_cancel_iff, Nat.add_right_cancel_iff, eq_self, upd_s, pk_sub, nI_pm, Nat.add_sub_cancel, List.length_cons, List.length_nil, Nat.add_eq_zero_iff, Nat.succ_ne_zero, and_false, false_and, l14, l18, l21, l23, l24, l26, l28, l29, l34, l35, l36, l41, l42, l43, l45, l47, l48, l49, l50, l51, l52, l57, l58, l59, l62, l63, l64, l96, l97, l98, l101, l102, l103, l104, l105, l106, l107, l108, l109, l110, l111, l112, l113, l114, l115, l116, l117, l118, l119, l121, l122, l127, l255, l700, l1320, l1000000, show (6 < j) = False from eq_false (by omega), ei]
    by_cases q2 : j = 6
    · rw [if_pos q2, hp, pNots_6 hw q2]
      refine wp_B2 (x_refuse (k := 2) gp.1) ?_
      rintro a w2 ⟨g1, g2⟩
      have g1 : a = nI 0 := g1
      simp (disch := omega) only [xB_s, xB2_s, xGet_s, xPut_s, xAld_s, xAst_s, xIf_t, xBool_s, l0, l1, l2, l3, l4, l5, l6, l7, l8, l9, l10, l11, l12, l13, l15, l16, l17, l19, l20, l25, l27, l30, l31, l32, l33, l39, l40, l60, l61, l99, l100, l120, l256, l999, l1999, l99999, lm, nI_add, pk_mul, nI_leI, nI_ltI, nI_eq, wuS_1, wuS_2, wuA_1, wuA_21, wuA_22, nI_m1, m1_nI, nIlt_m1, m1lt_nI, Nat.reduceEqDiff, Nat.reduceAdd, Nat.reduceMul, Nat.reduceSub, Nat.reduceLT, Nat.reduceLeDiff, reduceIte, if_true, if_false, Bool.false_eq_true, Nat.add_zero, Nat.zero_add, ne_eq, not_false_eq_true, not_true_eq_false, Nat.not_lt_zero, Nat.add_left_cancel_iff, Nat.add_right_cancel_iff, eq_self, upd_s, pk_sub, nI_pm, Nat.add_sub_cancel, List.length_cons, List.length_nil, Nat.add_eq_zero_iff, Nat.succ_ne_zero, and_false, false_and, l14, l18, l21, l23, l24, l26, l28, l29, l34, l35, l36, l41, l42, l43, l45, l47, l48, l49, l50, l51, l52, l57, l58, l59, l62, l63, l64, l96, l97, l98, l101, l102, l103, l104, l105, l106, l107, l108, l109, l110, l111, l112, l113, l114, l115, l116, l117, l118, l119, l121, l122, l127, l255, l700, l1320, l1000000, g1]
      exact wp_some ⟨rfl, g.f g2⟩
    · rw [if_neg q2]
      refine wp_B (x_advT gp) ?_
      intro w2 g2
      have := nxT_lt (b := b) (kw_in hw)
      have hk2 : k = 8 - (j + 1) := by omega
      rw [pNots_y hw q2, hk2] at hp
      exact hkk (by omega) _ ⟨w2, nxT b n s1, rfl, g.t (F := []) g2, by omega, hp⟩
  · rw [if_neg q1] at ei
    rw [hp, pNots_n (fun z => q1 ((kw_iff (by omega)).mp z))]
    simp (disch := omega) only [xB_s, xB2_s, xGet_s, xPut_s, xAld_s, xAst_s, xIf_t, xBool_s, l0, l1, l2, l3, l4, l5, l6, l7, l8, l9, l10, l11, l12, l13, l15, l16, l17, l19, l20, l25, l27, l30, l31, l32, l33, l39, l40, l60, l61, l99, l100, l120, l256, l999, l1999, l99999, lm, nI_add, pk_mul, nI_leI, nI_ltI, nI_eq, wuS_1, wuS_2, wuA_1, wuA_21, wuA_22, nI_m1, m1_nI, nIlt_m1, m1lt_nI, Nat.reduceEqDiff, Nat.reduceAdd, Nat.reduceMul, Nat.reduceSub, Nat.reduceLT, Nat.reduceLeDiff, reduceIte, if_true, if_false, Bool.false_eq_true, Nat.add_zero, Nat.zero_add, ne_eq, not_false_eq_true, not_true_eq_false, Nat.not_lt_zero, Nat.add_left_cancel_iff, Nat.add_right_cancel_iff, eq_self, upd_s, pk_sub, nI_pm, Nat.add_sub_cancel, List.length_cons, List.length_nil, Nat.add_eq_zero_iff, Nat.succ_ne_zero, and_false, false_and, l14, l18, l21, l23, l24, l26, l28, l29, l34, l35, l36, l41, l42, l43, l45, l47, l48, l49, l50, l51, l52, l57, l58, l59, l62, l63, l64, l96, l97, l98, l101, l102, l103, l104, l105, l106, l107, l108, l109, l110, l111, l112, l113, l114, l115, l116, l117, l118, l119, l121, l122, l127, l255, l700, l1320, l1000000, show (6 < j) = False from eq_false (by omega), ei]
    unfold J_X2_denied_50
    refine wp_B2 (x_compared hmn hd hB hg hr gp) ?_
    intro v w2 g2
    have hgs := pCmp_g (b := b) (n := n) (mn := mn) (d := d) (by omega) hB hg hs1
    cases e : pCmp b n mn pr d s1 with
    | inl f =>
      rw [e] at g2
      have c1 : v = nI 0 := g2.1
      rw [rB_l, c1]
      unfold P_X2_denied_59
      refine wp_for 0 (fun i σ => σ = (nI j, nI 0, nI 0, w2)) ?_ (i := 0) (by omega) (by omega) rfl
      rintro i _ kk2 hi rfl _
      show wpO (B_X2_denied_59 rec o (fun x2 x3 x4 w => kk2 (x2, x3, x4, w)) _ (nI j) (nI 0) (nI 0) w2) _
      unfold B_X2_denied_59 J_X2_denied_82
      simp (disch := omega) only [xB_s, xB2_s, xGet_s, xPut_s, xAld_s, xAst_s, xIf_t, xBool_s, l0, l1, l2, l3, l4, l5, l6, l7, l8, l9, l10, l11, l12, l13, l15, l16, l17, l19, l20, l25, l27, l30, l31, l32, l33, l39, l40, l60, l61, l99, l100, l120, l256, l999, l1999, l99999, lm, nI_add, pk_mul, nI_leI, nI_ltI, nI_eq, wuS_1, wuS_2, wuA_1, wuA_21, wuA_22, nI_m1, m1_nI, nIlt_m1, m1lt_nI, Nat.reduceEqDiff, Nat.reduceAdd, Nat.reduceMul, Nat.reduceSub, Nat.reduceLT, Nat.reduceLeDiff, reduceIte, if_true, if_false, Bool.false_eq_true, Nat.add_zero, Nat.zero_add, ne_eq, not_false_eq_true, not_true_eq_false, Nat.not_lt_zero, Nat.add_left_cancel_iff, Nat.add_right_cancel_iff, eq_self, upd_s, pk_sub, nI_pm, Nat.add_sub_cancel, List.length_cons, List.length_nil, Nat.add_eq_zero_iff, Nat.succ_ne_zero, and_false, false_and, l14, l18, l21, l23, l24, l26, l28, l29, l34, l35, l36, l41, l42, l43, l45, l47, l48, l49, l50, l51, l52, l57, l58, l59, l62, l63, l64, l96, l97, l98, l101, l102, l103, l104, l105, l106, l107, l108, l109, l110, l111, l112, l113, l114, l115, l116, l117, l118, l119, l121, l122, l127, l255, l700, l1320, l1000000]
      split <;> exact wp_some ⟨rfl, g.f g2.2⟩
    | inr p =>
      obtain ⟨E, s2⟩ := p
      rw [e] at g2 hgs
      obtain ⟨_, l1', l2', _⟩ := hgs
      have c1 : v = nI 1 := g2.1
      have g3 : XG b n mn s2 m E w w2 := g.t (F := E) g2.2
      have h5 := h.2.2.2.2
      rw [rB_r, c1]
      unfold P_X2_denied_59
      refine wp_for j (fun i σ => ∃ w3, σ = (nI j, nI 1, nI i, w3) ∧ XG b n mn s2 m (E ++ List.replicate i (2, 0)) w w3) ?_ (i := 0) (by omega) (by omega) ⟨w2, rfl, by rw [List.replicate_zero, List.append_nil]; exact g3⟩
      rintro i _ kk2 hi ⟨w3, rfl, g4⟩ hkk2
      show wpO (B_X2_denied_59 rec o (fun x2 x3 x4 w => kk2 (x2, x3, x4, w)) _ (nI j) (nI 1) (nI i) w3) _
      unfold B_X2_denied_59 J_X2_denied_82
      by_cases hlt : i < j
      · obtain ⟨p1, p2, p3, p4, p5⟩ := g4.2.1
        rw [List.length_append, List.length_replicate] at p3 p5
        simp (disch := omega) only [xB_s, xB2_s, xGet_s, xPut_s, xAld_s, xAst_s, xIf_t, xBool_s, l0, l1, l2, l3, l4, l5, l6, l7, l8, l9, l10, l11, l12, l13, l15, l16, l17, l19, l20, l25, l27, l30, l31, l32, l33, l39, l40, l60, l61, l99, l100, l120, l256, l999, l1999, l99999, lm, nI_add, pk_mul, nI_leI, nI_ltI, nI_eq, wuS_1, wuS_2, wuA_1, wuA_21, wuA_22, nI_m1, m1_nI, nIlt_m1, m1lt_nI, Nat.reduceEqDiff, Nat.reduceAdd, Nat.reduceMul, Nat.reduceSub, Nat.reduceLT, Nat.reduceLeDiff, reduceIte, if_true, if_false, Bool.false_eq_true, Nat.add_zero, Nat.zero_add, ne_eq, not_false_eq_true, not_true_eq_false, Nat.not_lt_zero, Nat.add_left_cancel_iff, Nat.add_right_cancel_iff, eq_self, upd_s, pk_sub, nI_pm, Nat.add_sub_cancel, List.length_cons, List.length_nil, Nat.add_eq_zero_iff, Nat.succ_ne_zero, and_false, false_and, l14, l18, l21, l23, l24, l26, l28, l29, l34, l35, l36, l41, l42, l43, l45, l47, l48, l49, l50, l51, l52, l57, l58, l59, l62, l63, l64, l96, l97, l98, l101, l102, l103, l104, l105, l106, l107, l108, l109, l110, l111, l112, l113, l114, l115, l116, l117, l118, l119, l121, l122, l127, l255, l700, l1320, l1000000, show (j ≤ i) = False from eq_false (by omega)]
        refine wp_B2 (x_emit (x := (2, 0)) (m := m + (E.length + i)) p1 p2 p3 p4 (by omega) (by decide)) ?_
        rintro v6 w7 ⟨c2, c3⟩
        have c2 : v6 = nI 1 := c2
        rw [c2]
        refine hkk2 hlt _ ⟨w7, rfl, ?_⟩
        rw [List.replicate_succ', ← List.append_assoc]
        have c3 : XG b n mn s2 (m + (E.length + i)) [(2, 0)] w3 w7 := c3
        rw [← List.length_replicate (n := i) (a := ((2, 0) : Op)), ← List.length_append] at c3
        exact g4.t c3
      · obtain rfl : i = j := by omega
        simp (disch := omega) only [xB_s, xB2_s, xGet_s, xPut_s, xAld_s, xAst_s, xIf_t, xBool_s, l0, l1, l2, l3, l4, l5, l6, l7, l8, l9, l10, l11, l12, l13, l15, l16, l17, l19, l20, l25, l27, l30, l31, l32, l33, l39, l40, l60, l61, l99, l100, l120, l256, l999, l1999, l99999, lm, nI_add, pk_mul, nI_leI, nI_ltI, nI_eq, wuS_1, wuS_2, wuA_1, wuA_21, wuA_22, nI_m1, m1_nI, nIlt_m1, m1lt_nI, Nat.reduceEqDiff, Nat.reduceAdd, Nat.reduceMul, Nat.reduceSub, Nat.reduceLT, Nat.reduceLeDiff, reduceIte, if_true, if_false, Bool.false_eq_true, Nat.add_zero, Nat.zero_add, ne_eq, not_false_eq_true, not_true_eq_false, Nat.not_lt_zero, Nat.add_left_cancel_iff, Nat.add_right_cancel_iff, eq_self, upd_s, pk_sub, nI_pm, Nat.add_sub_cancel, List.length_cons, List.length_nil, Nat.add_eq_zero_iff, Nat.succ_ne_zero, and_false, false_and, l14, l18, l21, l23, l24, l26, l28, l29, l34, l35, l36, l41, l42, l43, l45, l47, l48, l49, l50, l51, l52, l57, l58, l59, l62, l63, l64, l96, l97, l98, l101, l102, l103, l104, l105, l106, l107, l108, l109, l110, l111, l112, l113, l114, l115, l116, l117, l118, l119, l121, l122, l127, l255, l700, l1320, l1000000, Nat.le_refl]
        exact wp_some ⟨rfl, g4⟩
theorem x_allOf {b : Nat → Nat} {n mn B d s m : Nat} {rec : Int32 → wS → Option (Int32 × wS)} {pr : Nat → Nat → Res} {o : wO} {w : wS} (hmn : mn = 5 ∨ mn = 6) (hd : d < 100) (hB : 1 ≤ B) (hg : ∀ s, s ≤ n → gR b n s B (pr (d + 1) s)) (hr : ∀ s m w, XP b n mn s m w → wpO (rec (nI (d + 1)) w) (XQ b n mn m w (pr (d + 1) s))) (h : XP b n mn s m w) : wpO (L_X2_allOf rec o (nI d) w) (XQ b n mn m w (pAnd b n mn pr d s)) := by
  have hsub : ∀ s m w, XP b n mn s m w → wpO (L_X2_denied rec o (nI d) w) (XQ b n mn m w (pNot b n mn pr d s)) := fun s m w h => x_denied hmn hd hB hg hr h
  unfold L_X2_allOf pAnd
  refine wp_B2 (hsub s m w h) ?_
  intro v w1 g1
  have fin : ∀ R, (R = rB (pNot b n mn pr d s) fun E s1 => pLoop (opA b n) (nxT b n) (pNot b n mn pr d) (n + 1) E s1) → wpO (P_X2_allOf_8 rec o (fun z16 w17 => J_X2_allOf_67 rec o z16 w17) 5000 (nI d) v (nI 0) w1) (XQ b n mn m w R) := by
    intro R hR
    have hn := h.1.1.1
    have h5 := h.2.2.2.2
    unfold P_X2_allOf_8
    have start : ∃ N, N ≤ 702 ∧ ∃ (vv : Int32), v = vv ∧ ((∃ k E s1, N = n + 1 - s1 ∧ vv = nI 1 ∧ pLoop (opA b n) (nxT b n) (pNot b n mn pr d) k E s1 = R ∧ n < s1 + k ∧ 0 ≤ s1 ∧ XG b n mn s1 m E w w1) ∨ (N = 0 ∧ vv = nI 0 ∧ ∃ f, R = .inl f ∧ XF f w w1)) := by
      cases e : pNot b n mn pr d s with
      | inl f =>
        rw [e] at g1 hR
        exact ⟨0, by omega, v, rfl, Or.inr ⟨rfl, g1.1, f, hR, g1.2⟩⟩
      | inr p =>
        obtain ⟨E, s1⟩ := p
        rw [e] at g1 hR
        rw [rB_r] at hR
        exact ⟨n + 1 - s1, by omega, v, rfl, Or.inl ⟨n + 1, E, s1, rfl, g1.1, hR.symm, by omega, by omega, g1.2⟩⟩
    obtain ⟨N, hN, vv, rfl, hI⟩ := start
    refine wp_loop (fun N σ => ∃ i w', ((∃ k E s1, N = n + 1 - s1 ∧ σ = (nI d, nI 1, nI i, w') ∧ pLoop (opA b n) (nxT b n) (pNot b n mn pr d) k E s1 = R ∧ n < s1 + k ∧ i ≤ s1 ∧ XG b n mn s1 m E w w') ∨ (N = 0 ∧ σ = (nI d, nI 0, nI i, w') ∧ i ≤ 701 ∧ ∃ f, R = .inl f ∧ XF f w w'))) ?_ 5000 N _ (by omega) ⟨0, w1, ?_⟩
    · rintro N _ kk ⟨i, w', hI⟩ hkk
      rcases hI with ⟨k, E, s1, rfl, rfl, hp, hk, his, g⟩ | ⟨rfl, rfl, hi7, f, hp, g⟩
      · show wpO (B_X2_allOf_8 rec o (fun x1 x2 x3 w => kk (x1, x2, x3, w)) _ (nI d) (nI 1) (nI i) w') _
        have g1 := g.2.1
        have hs1 := g1.1.2.1
        have hkd := g1.k
        have done : opA b n s1 = none → wpO (some (nI 1, w')) (XQ b n mn m w R) := fun ho => by
          rw [pLoop_n ho] at hp
          rw [← hp]
          exact wp_some ⟨rfl, g⟩
        have step : ∀ a v2, opA b n s1 = some a → v2 = xSt (3, a) → wpO (xB (L_X7_advance o w') fun w3 => xB2 (L_X2_denied rec o (nI d) w3) fun v4 w5 => if v4 = nI 0 then kk (nI d, nI 0, nI (i + 1), w5) else xB2 (L_X2_emit o v2 w5) fun v6 w7 => if v6 = nI 0 then kk (nI d, nI 0, nI (i + 1), w7) else kk (nI d, nI 1, nI (i + 1), w7)) (XQ b n mn m w R) := by
          intro a v2 ho hv
          have hlt := (opA_in ho).1
          have hnx := nxT_lt (b := b) hlt
          have hnx2 := (nxT_le (b := b) hs1).2
          obtain ⟨k', rfl⟩ : ∃ k', k = k' + 1 := ⟨k - 1, by omega⟩
          rw [pLoop_s ho] at hp
          refine wp_B (x_advT g1) ?_
          intro w3 g3
          refine wp_B2 (hsub _ _ w3 g3.2.1) ?_
          intro v4 w5 g4
          have hgs := pNot_g (b := b) (n := n) (mn := mn) (d := d) (by omega) hB hg hnx2
          cases e : pNot b n mn pr d (nxT b n s1) with
          | inl f =>
            rw [e] at g4 hp
            rw [rB_l] at hp
            have c1 : v4 = nI 0 := g4.1
            simp (disch := omega) only [xB_s, xB2_s, xGet_s, xPut_s, xAld_s, xAst_s, xIf_t, xBool_s, l0, l1, l2, l3, l4, l5, l6, l7, l8, l9, l10, l11, l12, l13, l15, l16, l17, l19, l20, l25, l27, l30, l31, l32, l33, l39, l40, l60, l61, l99, l100, l120, l256, l999, l1999, l99999, lm, nI_add, pk_mul, nI_leI, nI_ltI, nI_eq, wuS_1, wuS_2, wuA_1, wuA_21, wuA_22, nI_m1, m1_nI, nIlt_m1, m1lt_nI, Nat.reduceEqDiff, Nat.reduceAdd, Nat.reduceMul, Nat.reduceSub, Nat.reduceLT, Nat.reduceLeDiff, reduceIte, if_true, if_false, Bool.false_eq_true, Nat.add_zero, Nat.zero_add, ne_eq, not_false_eq_true, not_true_eq_false, Nat.not_lt_zero, Nat.add_left_cancel_iff, Nat.add_right_cancel_iff, eq_self, upd_s, pk_sub, nI_pm, Nat.add_sub_cancel, List.length_cons, List.length_nil, Nat.add_eq_zero_iff, Nat.succ_ne_zero, and_false, false_and, l14, l18, l21, l23, l24, l26, l28, l29, l34, l35, l36, l41, l42, l43, l45, l47, l48, l49, l50, l51, l52, l57, l58, l59, l62, l63, l64, l96, l97, l98, l101, l102, l103, l104, l105, l106, l107, l108, l109, l110, l111, l112, l113, l114, l115, l116, l117, l118, l119, l121, l122, l127, l255, l700, l1320, l1000000, c1]
            exact hkk 0 _ (by omega) ⟨i + 1, w5, Or.inr ⟨rfl, rfl, by omega, f, hp.symm, g.f (g3.f g4.2)⟩⟩
          | inr p =>
            obtain ⟨F, s2⟩ := p
            rw [e] at g4 hp hgs
            rw [rB_r] at hp
            obtain ⟨_, l1', l2', _⟩ := hgs
            have c1 : v4 = nI 1 := g4.1
            have g5 : XG b n mn s2 (m + E.length) F w3 w5 := g4.2
            have g6 : XG b n mn s2 (m + E.length) F w' w5 := g3.t (F := F) g5
            obtain ⟨p1, p2, p3, p4, p5⟩ := g5.2.1
            have g15 := g1.2.2.2.2
            simp (disch := omega) only [xB_s, xB2_s, xGet_s, xPut_s, xAld_s, xAst_s, xIf_t, xBool_s, l0, l1, l2, l3, l4, l5, l6, l7, l8, l9, l10, l11, l12, l13, l15, l16, l17, l19, l20, l25, l27, l30, l31, l32, l33, l39, l40, l60, l61, l99, l100, l120, l256, l999, l1999, l99999, lm, nI_add, pk_mul, nI_leI, nI_ltI, nI_eq, wuS_1, wuS_2, wuA_1, wuA_21, wuA_22, nI_m1, m1_nI, nIlt_m1, m1lt_nI, Nat.reduceEqDiff, Nat.reduceAdd, Nat.reduceMul, Nat.reduceSub, Nat.reduceLT, Nat.reduceLeDiff, reduceIte, if_true, if_false, Bool.false_eq_true, Nat.add_zero, Nat.zero_add, ne_eq, not_false_eq_true, not_true_eq_false, Nat.not_lt_zero, Nat.add_left_cancel_iff, Nat.add_right_cancel_iff, eq_self, upd_s, pk_sub, nI_pm, Nat.add_sub_cancel, List.length_cons, List.length_nil, Nat.add_eq_zero_iff, Nat.succ_ne_zero, and_false, false_and, l14, l18, l21, l23, l24, l26, l28, l29, l34, l35, l36, l41, l42, l43, l45, l47, l48, l49, l50, l51, l52, l57, l58, l59, l62, l63, l64, l96, l97, l98, l101, l102, l103, l104, l105, l106, l107, l108, l109, l110, l111, l112, l113, l114, l115, l116, l117, l118, l119, l121, l122, l127, l255, l700, l1320, l1000000, c1]
            refine wp_B2 (x_emit (x := (3, a)) p1 p2 p3 p4 (by omega) hv) ?_
            rintro v6 w7 ⟨c2, c3⟩
            have c2 : v6 = nI 1 := c2
            simp (disch := omega) only [xB_s, xB2_s, xGet_s, xPut_s, xAld_s, xAst_s, xIf_t, xBool_s, l0, l1, l2, l3, l4, l5, l6, l7, l8, l9, l10, l11, l12, l13, l15, l16, l17, l19, l20, l25, l27, l30, l31, l32, l33, l39, l40, l60, l61, l99, l100, l120, l256, l999, l1999, l99999, lm, nI_add, pk_mul, nI_leI, nI_ltI, nI_eq, wuS_1, wuS_2, wuA_1, wuA_21, wuA_22, nI_m1, m1_nI, nIlt_m1, m1lt_nI, Nat.reduceEqDiff, Nat.reduceAdd, Nat.reduceMul, Nat.reduceSub, Nat.reduceLT, Nat.reduceLeDiff, reduceIte, if_true, if_false, Bool.false_eq_true, Nat.add_zero, Nat.zero_add, ne_eq, not_false_eq_true, not_true_eq_false, Nat.not_lt_zero, Nat.add_left_cancel_iff, Nat.add_right_cancel_iff, eq_self, upd_s, pk_sub, nI_pm, Nat.add_sub_cancel, List.length_cons, List.length_nil, Nat.add_eq_zero_iff, Nat.succ_ne_zero, and_false, false_and, l14, l18, l21, l23, l24, l26, l28, l29, l34, l35, l36, l41, l42, l43, l45, l47, l48, l49, l50, l51, l52, l57, l58, l59, l62, l63, l64, l96, l97, l98, l101, l102, l103, l104, l105, l106, l107, l108, l109, l110, l111, l112, l113, l114, l115, l116, l117, l118, l119, l121, l122, l127, l255, l700, l1320, l1000000, c2]
            refine hkk (n + 1 - s2) _ (by omega) ⟨i + 1, w7, Or.inl ⟨k', E ++ (F ++ [(3, a)]), s2, rfl, rfl, hp, by omega, by omega, ?_⟩⟩
            exact g.t (g6.t c3)
        unfold B_X2_allOf_8 J_X2_allOf_67 J_X2_allOf_59 J_X2_allOf_60
        by_cases h7 : 700 ≤ i
        · simp (disch := omega) only [xB_s, xB2_s, xGet_s, xPut_s, xAld_s, xAst_s, xIf_t, xBool_s, l0, l1, l2, l3, l4, l5, l6, l7, l8, l9, l10, l11, l12, l13, l15, l16, l17, l19, l20, l25, l27, l30, l31, l32, l33, l39, l40, l60, l61, l99, l100, l120, l256, l999, l1999, l99999, lm, nI_add, pk_mul, nI_leI, nI_ltI, nI_eq, wuS_1, wuS_2, wuA_1, wuA_21, wuA_22, nI_m1, m1_nI, nIlt_m1, m1lt_nI, Nat.reduceEqDiff, Nat.reduceAdd, Nat.reduceMul, Nat.reduceSub, Nat.reduceLT, Nat.reduceLeDiff, reduceIte, if_true, if_false, Bool.false_eq_true, Nat.add_zero, Nat.zero_add, ne_eq, not_false_eq_true, not_true_eq_false, Nat.not_lt_zero, Nat.add_left_cancel_iff, Nat.add_right_cancel_iff, eq_self, upd_s, pk_sub, nI_pm, Nat.add_sub_cancel, List.length_cons, List.length_nil, Nat.add_eq_zero_iff, Nat.succ_ne_zero, and_false, false_and, l14, l18, l21, l23, l24, l26, l28, l29, l34, l35, l36, l41, l42, l43, l45, l47, l48, l49, l50, l51, l52, l57, l58, l59, l62, l63, l64, l96, l97, l98, l101, l102, l103, l104, l105, l106, l107, l108, l109, l110, l111, l112, l113, l114, l115, l116, l117, l118, l119, l121, l122, l127, l255, l700, l1320, l1000000, h7, J_X2_allOf_67]
          refine done ?_
          unfold opA
          rw [if_neg]
          intro z
          have := kw_in z
          omega
        · have ei := x_is13 (o := o) g1.1
          by_cases q1 : wIs b n s1 (wl 13)
          · rw [if_pos q1] at ei
            simp (disch := omega) only [xB_s, xB2_s, xGet_s, xPut_s, xAld_s, xAst_s, xIf_t, xBool_s, l0, l1, l2, l3, l4, l5, l6, l7, l8, l9, l10, l11, l12, l13, l15, l16, l17, l19, l20, l25, l27, l30, l31, l32, l33, l39, l40, l60, l61, l99, l100, l120, l256, l999, l1999, l99999, lm, nI_add, pk_mul, nI_leI, nI_ltI, nI_eq, wuS_1, wuS_2, wuA_1, wuA_21, wuA_22, nI_m1, m1_nI, nIlt_m1, m1lt_nI, Nat.reduceEqDiff, Nat.reduceAdd, Nat.reduceMul, Nat.reduceSub, Nat.reduceLT, Nat.reduceLeDiff, reduceIte, if_true, if_false, Bool.false_eq_true, Nat.add_zero, Nat.zero_add, ne_eq, not_false_eq_true, not_true_eq_false, Nat.not_lt_zero, Nat.add_left_cancel_iff, Nat.add_right_cancel_iff, eq_self, upd_s, pk_sub, nI_pm, Nat.add_sub_cancel, List.length_cons, List.length_nil, Nat.add_eq_zero_iff, Nat.succ_ne_zero, and_false, false_and, l14, l18, l21, l23, l24, l26, l28, l29, l34, l35, l36, l41, l42, l43, l45, l47, l48, l49, l50, l51, l52, l57, l58, l59, l62, l63, l64, l96, l97, l98, l101, l102, l103, l104, l105, l106, l107, l108, l109, l110, l111, l112, l113, l114, l115, l116, l117, l118, l119, l121, l122, l127, l255, l700, l1320, l1000000, h7, ei, J_X2_allOf_67]
            exact step 0 _ (by unfold opA; rw [if_pos ((kw_iff (by omega)).mpr q1)]) (by decide)
          · rw [if_neg q1] at ei
            simp (disch := omega) only [xB_s, xB2_s, xGet_s, xPut_s, xAld_s, xAst_s, xIf_t, xBool_s, l0, l1, l2, l3, l4, l5, l6, l7, l8, l9, l10, l11, l12, l13, l15, l16, l17, l19, l20, l25, l27, l30, l31, l32, l33, l39, l40, l60, l61, l99, l100, l120, l256, l999, l1999, l99999, lm, nI_add, pk_mul, nI_leI, nI_ltI, nI_eq, wuS_1, wuS_2, wuA_1, wuA_21, wuA_22, nI_m1, m1_nI, nIlt_m1, m1lt_nI, Nat.reduceEqDiff, Nat.reduceAdd, Nat.reduceMul, Nat.reduceSub, Nat.reduceLT, Nat.reduceLeDiff, reduceIte, if_true, if_false, Bool.false_eq_true, Nat.add_zero, Nat.zero_add, ne_eq, not_false_eq_true, not_true_eq_false, Nat.not_lt_zero, Nat.add_left_cancel_iff, Nat.add_right_cancel_iff, eq_self, upd_s, pk_sub, nI_pm, Nat.add_sub_cancel, List.length_cons, List.length_nil, Nat.add_eq_zero_iff, Nat.succ_ne_zero, and_false, false_and, l14, l18, l21, l23, l24, l26, l28, l29, l34, l35, l36, l41, l42, l43, l45, l47, l48, l49, l50, l51, l52, l57, l58, l59, l62, l63, l64, l96, l97, l98, l101, l102, l103, l104, l105, l106, l107, l108, l109, l110, l111, l112, l113, l114, l115, l116, l117, l118, l119, l121, l122, l127, l255, l700, l1320, l1000000, h7, ei, J_X2_allOf_67]
            exact done (by unfold opA; rw [if_neg (fun z => q1 ((kw_iff (by omega)).mp z))])
      · show wpO (B_X2_allOf_8 rec o (fun x1 x2 x3 w => kk (x1, x2, x3, w)) _ (nI d) (nI 0) (nI i) w') _
        unfold B_X2_allOf_8 J_X2_allOf_67
        simp (disch := omega) only [xB_s, xB2_s, xGet_s, xPut_s, xAld_s, xAst_s, xIf_t, xBool_s, l0, l1, l2, l3, l4, l5, l6, l7, l8, l9, l10, l11, l12, l13, l15, l16, l17, l19, l20, l25, l27, l30, l31, l32, l33, l39, l40, l60, l61, l99, l100, l120, l256, l999, l1999, l99999, lm, nI_add, pk_mul, nI_leI, nI_ltI, nI_eq, wuS_1, wuS_2, wuA_1, wuA_21, wuA_22, nI_m1, m1_nI, nIlt_m1, m1lt_nI, Nat.reduceEqDiff, Nat.reduceAdd, Nat.reduceMul, Nat.reduceSub, Nat.reduceLT, Nat.reduceLeDiff, reduceIte, if_true, if_false, Bool.false_eq_true, Nat.add_zero, Nat.zero_add, ne_eq, not_false_eq_true, not_true_eq_false, Nat.not_lt_zero, Nat.add_left_cancel_iff, Nat.add_right_cancel_iff, eq_self, upd_s, pk_sub, nI_pm, Nat.add_sub_cancel, List.length_cons, List.length_nil, Nat.add_eq_zero_iff, Nat.succ_ne_zero, and_false, false_and, l14, l18, l21, l23, l24, l26, l28, l29, l34, l35, l36, l41, l42, l43, l45, l47, l48, l49, l50, l51, l52, l57, l58, l59, l62, l63, l64, l96, l97, l98, l101, l102, l103, l104, l105, l106, l107, l108, l109, l110, l111, l112, l113, l114, l115, l116, l117, l118, l119, l121, l122, l127, l255, l700, l1320, l1000000]
        rw [hp]
        split <;> exact wp_some ⟨rfl, g⟩
    · rcases hI with ⟨k, E, s1, a1, a2, a3, a4, a5, a6⟩ | ⟨a1, a2, f, a3, a4⟩
      · exact Or.inl ⟨k, E, s1, a1, by rw [a2], a3, a4, a5, a6⟩
      · exact Or.inr ⟨a1, by rw [a2], by omega, f, a3, a4⟩
  exact fin _ rfl
theorem x_or {b : Nat → Nat} {n mn B d s m : Nat} {rec : Int32 → wS → Option (Int32 × wS)} {pr : Nat → Nat → Res} {o : wO} {w : wS} (hmn : mn = 5 ∨ mn = 6) (hd : d < 100) (hB : 1 ≤ B) (hg : ∀ s, s ≤ n → gR b n s B (pr (d + 1) s)) (hr : ∀ s m w, XP b n mn s m w → wpO (rec (nI (d + 1)) w) (XQ b n mn m w (pr (d + 1) s))) (h : XP b n mn s m w) : wpO (J_X2_expr_58 rec o (nI d) w) (XQ b n mn m w (pOr b n mn pr d s)) := by
  have hsub : ∀ s m w, XP b n mn s m w → wpO (L_X2_allOf rec o (nI d) w) (XQ b n mn m w (pAnd b n mn pr d s)) := fun s m w h => x_allOf hmn hd hB hg hr h
  unfold J_X2_expr_58 pOr
  refine wp_B2 (hsub s m w h) ?_
  intro v w1 g1
  have fin : ∀ R, (R = rB (pAnd b n mn pr d s) fun E s1 => pLoop (opO b n) (nxT b n) (pAnd b n mn pr d) (n + 1) E s1) → wpO (P_X2_expr_67 rec o (fun z16 w17 => J_X2_expr_127 rec o z16 w17) 5000 (nI d) v (nI 0) w1) (XQ b n mn m w R) := by
    intro R hR
    have hn := h.1.1.1
    have h5 := h.2.2.2.2
    unfold P_X2_expr_67
    have start : ∃ N, N ≤ 702 ∧ ∃ (vv : Int32), v = vv ∧ ((∃ k E s1, N = n + 1 - s1 ∧ vv = nI 1 ∧ pLoop (opO b n) (nxT b n) (pAnd b n mn pr d) k E s1 = R ∧ n < s1 + k ∧ 0 ≤ s1 ∧ XG b n mn s1 m E w w1) ∨ (N = 0 ∧ vv = nI 0 ∧ ∃ f, R = .inl f ∧ XF f w w1)) := by
      cases e : pAnd b n mn pr d s with
      | inl f =>
        rw [e] at g1 hR
        exact ⟨0, by omega, v, rfl, Or.inr ⟨rfl, g1.1, f, hR, g1.2⟩⟩
      | inr p =>
        obtain ⟨E, s1⟩ := p
        rw [e] at g1 hR
        rw [rB_r] at hR
        exact ⟨n + 1 - s1, by omega, v, rfl, Or.inl ⟨n + 1, E, s1, rfl, g1.1, hR.symm, by omega, by omega, g1.2⟩⟩
    obtain ⟨N, hN, vv, rfl, hI⟩ := start
    refine wp_loop (fun N σ => ∃ i w', ((∃ k E s1, N = n + 1 - s1 ∧ σ = (nI d, nI 1, nI i, w') ∧ pLoop (opO b n) (nxT b n) (pAnd b n mn pr d) k E s1 = R ∧ n < s1 + k ∧ i ≤ s1 ∧ XG b n mn s1 m E w w') ∨ (N = 0 ∧ σ = (nI d, nI 0, nI i, w') ∧ i ≤ 701 ∧ ∃ f, R = .inl f ∧ XF f w w'))) ?_ 5000 N _ (by omega) ⟨0, w1, ?_⟩
    · rintro N _ kk ⟨i, w', hI⟩ hkk
      rcases hI with ⟨k, E, s1, rfl, rfl, hp, hk, his, g⟩ | ⟨rfl, rfl, hi7, f, hp, g⟩
      · show wpO (B_X2_expr_67 rec o (fun x1 x2 x3 w => kk (x1, x2, x3, w)) _ (nI d) (nI 1) (nI i) w') _
        have g1 := g.2.1
        have hs1 := g1.1.2.1
        have hkd := g1.k
        have done : opO b n s1 = none → wpO (some (nI 1, w')) (XQ b n mn m w R) := fun ho => by
          rw [pLoop_n ho] at hp
          rw [← hp]
          exact wp_some ⟨rfl, g⟩
        have step : ∀ a v2, opO b n s1 = some a → v2 = xSt (3, a) → wpO (xB (L_X7_advance o w') fun w3 => xB2 (L_X2_allOf rec o (nI d) w3) fun v4 w5 => if v4 = nI 0 then kk (nI d, nI 0, nI (i + 1), w5) else xB2 (L_X2_emit o v2 w5) fun v6 w7 => if v6 = nI 0 then kk (nI d, nI 0, nI (i + 1), w7) else kk (nI d, nI 1, nI (i + 1), w7)) (XQ b n mn m w R) := by
          intro a v2 ho hv
          have hlt := (opO_in ho).1
          have hnx := nxT_lt (b := b) hlt
          have hnx2 := (nxT_le (b := b) hs1).2
          obtain ⟨k', rfl⟩ : ∃ k', k = k' + 1 := ⟨k - 1, by omega⟩
          rw [pLoop_s ho] at hp
          refine wp_B (x_advT g1) ?_
          intro w3 g3
          refine wp_B2 (hsub _ _ w3 g3.2.1) ?_
          intro v4 w5 g4
          have hgs := pAnd_g (b := b) (n := n) (mn := mn) (d := d) (by omega) hB hg hnx2
          cases e : pAnd b n mn pr d (nxT b n s1) with
          | inl f =>
            rw [e] at g4 hp
            rw [rB_l] at hp
            have c1 : v4 = nI 0 := g4.1
            simp (disch := omega) only [xB_s, xB2_s, xGet_s, xPut_s, xAld_s, xAst_s, xIf_t, xBool_s, l0, l1, l2, l3, l4, l5, l6, l7, l8, l9, l10, l11, l12, l13, l15, l16, l17, l19, l20, l25, l27, l30, l31, l32, l33, l39, l40, l60, l61, l99, l100, l120, l256, l999, l1999, l99999, lm, nI_add, pk_mul, nI_leI, nI_ltI, nI_eq, wuS_1, wuS_2, wuA_1, wuA_21, wuA_22, nI_m1, m1_nI, nIlt_m1, m1lt_nI, Nat.reduceEqDiff, Nat.reduceAdd, Nat.reduceMul, Nat.reduceSub, Nat.reduceLT, Nat.reduceLeDiff, reduceIte, if_true, if_false, Bool.false_eq_true, Nat.add_zero, Nat.zero_add, ne_eq, not_false_eq_true, not_true_eq_false, Nat.not_lt_zero, Nat.add_left_cancel_iff, Nat.add_right_cancel_iff, eq_self, upd_s, pk_sub, nI_pm, Nat.add_sub_cancel, List.length_cons, List.length_nil, Nat.add_eq_zero_iff, Nat.succ_ne_zero, and_false, false_and, l14, l18, l21, l23, l24, l26, l28, l29, l34, l35, l36, l41, l42, l43, l45, l47, l48, l49, l50, l51, l52, l57, l58, l59, l62, l63, l64, l96, l97, l98, l101, l102, l103, l104, l105, l106, l107, l108, l109, l110, l111, l112, l113, l114, l115, l116, l117, l118, l119, l121, l122, l127, l255, l700, l1320, l1000000, c1]
            exact hkk 0 _ (by omega) ⟨i + 1, w5, Or.inr ⟨rfl, rfl, by omega, f, hp.symm, g.f (g3.f g4.2)⟩⟩
          | inr p =>
            obtain ⟨F, s2⟩ := p
            rw [e] at g4 hp hgs
            rw [rB_r] at hp
            obtain ⟨_, l1', l2', _⟩ := hgs
            have c1 : v4 = nI 1 := g4.1
            have g5 : XG b n mn s2 (m + E.length) F w3 w5 := g4.2
            have g6 : XG b n mn s2 (m + E.length) F w' w5 := g3.t (F := F) g5
            obtain ⟨p1, p2, p3, p4, p5⟩ := g5.2.1
            have g15 := g1.2.2.2.2
            simp (disch := omega) only [xB_s, xB2_s, xGet_s, xPut_s, xAld_s, xAst_s, xIf_t, xBool_s, l0, l1, l2, l3, l4, l5, l6, l7, l8, l9, l10, l11, l12, l13, l15, l16, l17, l19, l20, l25, l27, l30, l31, l32, l33, l39, l40, l60, l61, l99, l100, l120, l256, l999, l1999, l99999, lm, nI_add, pk_mul, nI_leI, nI_ltI, nI_eq, wuS_1, wuS_2, wuA_1, wuA_21, wuA_22, nI_m1, m1_nI, nIlt_m1, m1lt_nI, Nat.reduceEqDiff, Nat.reduceAdd, Nat.reduceMul, Nat.reduceSub, Nat.reduceLT, Nat.reduceLeDiff, reduceIte, if_true, if_false, Bool.false_eq_true, Nat.add_zero, Nat.zero_add, ne_eq, not_false_eq_true, not_true_eq_false, Nat.not_lt_zero, Nat.add_left_cancel_iff, Nat.add_right_cancel_iff, eq_self, upd_s, pk_sub, nI_pm, Nat.add_sub_cancel, List.length_cons, List.length_nil, Nat.add_eq_zero_iff, Nat.succ_ne_zero, and_false, false_and, l14, l18, l21, l23, l24, l26, l28, l29, l34, l35, l36, l41, l42, l43, l45, l47, l48, l49, l50, l51, l52, l57, l58, l59, l62, l63, l64, l96, l97, l98, l101, l102, l103, l104, l105, l106, l107, l108, l109, l110, l111, l112, l113, l114, l115, l116, l117, l118, l119, l121, l122, l127, l255, l700, l1320, l1000000, c1]
            refine wp_B2 (x_emit (x := (3, a)) p1 p2 p3 p4 (by omega) hv) ?_
            rintro v6 w7 ⟨c2, c3⟩
            have c2 : v6 = nI 1 := c2
            simp (disch := omega) only [xB_s, xB2_s, xGet_s, xPut_s, xAld_s, xAst_s, xIf_t, xBool_s, l0, l1, l2, l3, l4, l5, l6, l7, l8, l9, l10, l11, l12, l13, l15, l16, l17, l19, l20, l25, l27, l30, l31, l32, l33, l39, l40, l60, l61, l99, l100, l120, l256, l999, l1999, l99999, lm, nI_add, pk_mul, nI_leI, nI_ltI, nI_eq, wuS_1, wuS_2, wuA_1, wuA_21, wuA_22, nI_m1, m1_nI, nIlt_m1, m1lt_nI, Nat.reduceEqDiff, Nat.reduceAdd, Nat.reduceMul, Nat.reduceSub, Nat.reduceLT, Nat.reduceLeDiff, reduceIte, if_true, if_false, Bool.false_eq_true, Nat.add_zero, Nat.zero_add, ne_eq, not_false_eq_true, not_true_eq_false, Nat.not_lt_zero, Nat.add_left_cancel_iff, Nat.add_right_cancel_iff, eq_self, upd_s, pk_sub, nI_pm, Nat.add_sub_cancel, List.length_cons, List.length_nil, Nat.add_eq_zero_iff, Nat.succ_ne_zero, and_false, false_and, l14, l18, l21, l23, l24, l26, l28, l29, l34, l35, l36, l41, l42, l43, l45, l47, l48, l49, l50, l51, l52, l57, l58, l59, l62, l63, l64, l96, l97, l98, l101, l102, l103, l104, l105, l106, l107, l108, l109, l110, l111, l112, l113, l114, l115, l116, l117, l118, l119, l121, l122, l127, l255, l700, l1320, l1000000, c2]
            refine hkk (n + 1 - s2) _ (by omega) ⟨i + 1, w7, Or.inl ⟨k', E ++ (F ++ [(3, a)]), s2, rfl, rfl, hp, by omega, by omega, ?_⟩⟩
            exact g.t (g6.t c3)
        unfold B_X2_expr_67 J_X2_expr_127 J_X2_expr_119 J_X2_expr_120
        by_cases h7 : 700 ≤ i
        · simp (disch := omega) only [xB_s, xB2_s, xGet_s, xPut_s, xAld_s, xAst_s, xIf_t, xBool_s, l0, l1, l2, l3, l4, l5, l6, l7, l8, l9, l10, l11, l12, l13, l15, l16, l17, l19, l20, l25, l27, l30, l31, l32, l33, l39, l40, l60, l61, l99, l100, l120, l256, l999, l1999, l99999, lm, nI_add, pk_mul, nI_leI, nI_ltI, nI_eq, wuS_1, wuS_2, wuA_1, wuA_21, wuA_22, nI_m1, m1_nI, nIlt_m1, m1lt_nI, Nat.reduceEqDiff, Nat.reduceAdd, Nat.reduceMul, Nat.reduceSub, Nat.reduceLT, Nat.reduceLeDiff, reduceIte, if_true, if_false, Bool.false_eq_true, Nat.add_zero, Nat.zero_add, ne_eq, not_false_eq_true, not_true_eq_false, Nat.not_lt_zero, Nat.add_left_cancel_iff, Nat.add_right_cancel_iff, eq_self, upd_s, pk_sub, nI_pm, Nat.add_sub_cancel, List.length_cons, List.length_nil, Nat.add_eq_zero_iff, Nat.succ_ne_zero, and_false, false_and, l14, l18, l21, l23, l24, l26, l28, l29, l34, l35, l36, l41, l42, l43, l45, l47, l48, l49, l50, l51, l52, l57, l58, l59, l62, l63, l64, l96, l97, l98, l101, l102, l103, l104, l105, l106, l107, l108, l109, l110, l111, l112, l113, l114, l115, l116, l117, l118, l119, l121, l122, l127, l255, l700, l1320, l1000000, h7, J_X2_expr_127]
          refine done ?_
          unfold opO
          rw [if_neg]
          intro z
          have := kw_in z
          omega
        · have ei := x_is14 (o := o) g1.1
          by_cases q1 : wIs b n s1 (wl 14)
          · rw [if_pos q1] at ei
            simp (disch := omega) only [xB_s, xB2_s, xGet_s, xPut_s, xAld_s, xAst_s, xIf_t, xBool_s, l0, l1, l2, l3, l4, l5, l6, l7, l8, l9, l10, l11, l12, l13, l15, l16, l17, l19, l20, l25, l27, l30, l31, l32, l33, l39, l40, l60, l61, l99, l100, l120, l256, l999, l1999, l99999, lm, nI_add, pk_mul, nI_leI, nI_ltI, nI_eq, wuS_1, wuS_2, wuA_1, wuA_21, wuA_22, nI_m1, m1_nI, nIlt_m1, m1lt_nI, Nat.reduceEqDiff, Nat.reduceAdd, Nat.reduceMul, Nat.reduceSub, Nat.reduceLT, Nat.reduceLeDiff, reduceIte, if_true, if_false, Bool.false_eq_true, Nat.add_zero, Nat.zero_add, ne_eq, not_false_eq_true, not_true_eq_false, Nat.not_lt_zero, Nat.add_left_cancel_iff, Nat.add_right_cancel_iff, eq_self, upd_s, pk_sub, nI_pm, Nat.add_sub_cancel, List.length_cons, List.length_nil, Nat.add_eq_zero_iff, Nat.succ_ne_zero, and_false, false_and, l14, l18, l21, l23, l24, l26, l28, l29, l34, l35, l36, l41, l42, l43, l45, l47, l48, l49, l50, l51, l52, l57, l58, l59, l62, l63, l64, l96, l97, l98, l101, l102, l103, l104, l105, l106, l107, l108, l109, l110, l111, l112, l113, l114, l115, l116, l117, l118, l119, l121, l122, l127, l255, l700, l1320, l1000000, h7, ei, J_X2_expr_127]
            exact step 1 _ (by unfold opO; rw [if_pos ((kw_iff (by omega)).mpr q1)]) (by decide)
          · rw [if_neg q1] at ei
            simp (disch := omega) only [xB_s, xB2_s, xGet_s, xPut_s, xAld_s, xAst_s, xIf_t, xBool_s, l0, l1, l2, l3, l4, l5, l6, l7, l8, l9, l10, l11, l12, l13, l15, l16, l17, l19, l20, l25, l27, l30, l31, l32, l33, l39, l40, l60, l61, l99, l100, l120, l256, l999, l1999, l99999, lm, nI_add, pk_mul, nI_leI, nI_ltI, nI_eq, wuS_1, wuS_2, wuA_1, wuA_21, wuA_22, nI_m1, m1_nI, nIlt_m1, m1lt_nI, Nat.reduceEqDiff, Nat.reduceAdd, Nat.reduceMul, Nat.reduceSub, Nat.reduceLT, Nat.reduceLeDiff, reduceIte, if_true, if_false, Bool.false_eq_true, Nat.add_zero, Nat.zero_add, ne_eq, not_false_eq_true, not_true_eq_false, Nat.not_lt_zero, Nat.add_left_cancel_iff, Nat.add_right_cancel_iff, eq_self, upd_s, pk_sub, nI_pm, Nat.add_sub_cancel, List.length_cons, List.length_nil, Nat.add_eq_zero_iff, Nat.succ_ne_zero, and_false, false_and, l14, l18, l21, l23, l24, l26, l28, l29, l34, l35, l36, l41, l42, l43, l45, l47, l48, l49, l50, l51, l52, l57, l58, l59, l62, l63, l64, l96, l97, l98, l101, l102, l103, l104, l105, l106, l107, l108, l109, l110, l111, l112, l113, l114, l115, l116, l117, l118, l119, l121, l122, l127, l255, l700, l1320, l1000000, h7, ei, J_X2_expr_127]
            exact done (by unfold opO; rw [if_neg (fun z => q1 ((kw_iff (by omega)).mp z))])
      · show wpO (B_X2_expr_67 rec o (fun x1 x2 x3 w => kk (x1, x2, x3, w)) _ (nI d) (nI 0) (nI i) w') _
        unfold B_X2_expr_67 J_X2_expr_127
        simp (disch := omega) only [xB_s, xB2_s, xGet_s, xPut_s, xAld_s, xAst_s, xIf_t, xBool_s, l0, l1, l2, l3, l4, l5, l6, l7, l8, l9, l10, l11, l12, l13, l15, l16, l17, l19, l20, l25, l27, l30, l31, l32, l33, l39, l40, l60, l61, l99, l100, l120, l256, l999, l1999, l99999, lm, nI_add, pk_mul, nI_leI, nI_ltI, nI_eq, wuS_1, wuS_2, wuA_1, wuA_21, wuA_22, nI_m1, m1_nI, nIlt_m1, m1lt_nI, Nat.reduceEqDiff, Nat.reduceAdd, Nat.reduceMul, Nat.reduceSub, Nat.reduceLT, Nat.reduceLeDiff, reduceIte, if_true, if_false, Bool.false_eq_true, Nat.add_zero, Nat.zero_add, ne_eq, not_false_eq_true, not_true_eq_false, Nat.not_lt_zero, Nat.add_left_cancel_iff, Nat.add_right_cancel_iff, eq_self, upd_s, pk_sub, nI_pm, Nat.add_sub_cancel, List.length_cons, List.length_nil, Nat.add_eq_zero_iff, Nat.succ_ne_zero, and_false, false_and, l14, l18, l21, l23, l24, l26, l28, l29, l34, l35, l36, l41, l42, l43, l45, l47, l48, l49, l50, l51, l52, l57, l58, l59, l62, l63, l64, l96, l97, l98, l101, l102, l103, l104, l105, l106, l107, l108, l109, l110, l111, l112, l113, l114, l115, l116, l117, l118, l119, l121, l122, l127, l255, l700, l1320, l1000000]
        rw [hp]
        split <;> exact wp_some ⟨rfl, g⟩
    · rcases hI with ⟨k, E, s1, a1, a2, a3, a4, a5, a6⟩ | ⟨a1, a2, f, a3, a4⟩
      · exact Or.inl ⟨k, E, s1, a1, by rw [a2], a3, a4, a5, a6⟩
      · exact Or.inr ⟨a1, by rw [a2], by omega, f, a3, a4⟩
  exact fin _ rfl
theorem x_expr {b : Nat → Nat} {n mn B d s m : Nat} {rec : Int32 → wS → Option (Int32 × wS)} {pr : Nat → Nat → Res} {o : wO} {w : wS} (hmn : mn = 5 ∨ mn = 6) (hd : d < 100) (hB : 1 ≤ B) (hg : ∀ s, s ≤ n → gR b n s B (pr (d + 1) s)) (hr : ∀ s m w, XP b n mn s m w → wpO (rec (nI (d + 1)) w) (XQ b n mn m w (pr (d + 1) s))) (h : XP b n mn s m w) : wpO (L_X2_expr rec o (nI d) w) (XQ b n mn m w (pEx b n mn pr d s)) := by
  have hk := h.k
  have go := x_or (o := o) hmn hd hB hg hr h
  have rfs : wpO (xB2 (L_X2_refuse o (nI 2) w) fun v w => xB (xBool v) fun v => some (v, w)) (XQ b n mn m w (.inl (2, s))) := by
    refine wp_B2 (x_refuse (k := 2) h.1) ?_
    rintro a w' ⟨g1, g2⟩
    have g1 : a = nI 0 := g1
    simp (disch := omega) only [xB_s, xB2_s, xGet_s, xPut_s, xAld_s, xAst_s, xIf_t, xBool_s, l0, l1, l2, l3, l4, l5, l6, l7, l8, l9, l10, l11, l12, l13, l15, l16, l17, l19, l20, l25, l27, l30, l31, l32, l33, l39, l40, l60, l61, l99, l100, l120, l256, l999, l1999, l99999, lm, nI_add, pk_mul, nI_leI, nI_ltI, nI_eq, wuS_1, wuS_2, wuA_1, wuA_21, wuA_22, nI_m1, m1_nI, nIlt_m1, m1lt_nI, Nat.reduceEqDiff, Nat.reduceAdd, Nat.reduceMul, Nat.reduceSub, Nat.reduceLT, Nat.reduceLeDiff, reduceIte, if_true, if_false, Bool.false_eq_true, Nat.add_zero, Nat.zero_add, ne_eq, not_false_eq_true, not_true_eq_false, Nat.not_lt_zero, Nat.add_left_cancel_iff, Nat.add_right_cancel_iff, eq_self, upd_s, pk_sub, nI_pm, Nat.add_sub_cancel, List.length_cons, List.length_nil, Nat.add_eq_zero_iff, Nat.succ_ne_zero, and_false, false_and, l14, l18, l21, l23, l24, l26, l28, l29, l34, l35, l36, l41, l42, l43, l45, l47, l48, l49, l50, l51, l52, l57, l58, l59, l62, l63, l64, l96, l97, l98, l101, l102, l103, l104, l105, l106, l107, l108, l109, l110, l111, l112, l113, l114, l115, l116, l117, l118, l119, l121, l122, l127, l255, l700, l1320, l1000000, g1]
    exact wp_some ⟨rfl, g2⟩
  unfold L_X2_expr J_X2_expr_36 J_X2_expr_41 pEx
  simp (disch := omega) only [xB_s, xB2_s, xGet_s, xPut_s, xAld_s, xAst_s, xIf_t, xBool_s, l0, l1, l2, l3, l4, l5, l6, l7, l8, l9, l10, l11, l12, l13, l15, l16, l17, l19, l20, l25, l27, l30, l31, l32, l33, l39, l40, l60, l61, l99, l100, l120, l256, l999, l1999, l99999, lm, nI_add, pk_mul, nI_leI, nI_ltI, nI_eq, wuS_1, wuS_2, wuA_1, wuA_21, wuA_22, nI_m1, m1_nI, nIlt_m1, m1lt_nI, Nat.reduceEqDiff, Nat.reduceAdd, Nat.reduceMul, Nat.reduceSub, Nat.reduceLT, Nat.reduceLeDiff, reduceIte, if_true, if_false, Bool.false_eq_true, Nat.add_zero, Nat.zero_add, ne_eq, not_false_eq_true, not_true_eq_false, Nat.not_lt_zero, Nat.add_left_cancel_iff, Nat.add_right_cancel_iff, eq_self, upd_s, pk_sub, nI_pm, Nat.add_sub_cancel, List.length_cons, List.length_nil, Nat.add_eq_zero_iff, Nat.succ_ne_zero, and_false, false_and, l14, l18, l21, l23, l24, l26, l28, l29, l34, l35, l36, l41, l42, l43, l45, l47, l48, l49, l50, l51, l52, l57, l58, l59, l62, l63, l64, l96, l97, l98, l101, l102, l103, l104, l105, l106, l107, l108, l109, l110, l111, l112, l113, l114, l115, l116, l117, l118, l119, l121, l122, l127, l255, l700, l1320, l1000000, h.1.2.2.1]
  by_cases q6 : d < 6
  · simp (disch := omega) only [xB_s, xB2_s, xGet_s, xPut_s, xAld_s, xAst_s, xIf_t, xBool_s, l0, l1, l2, l3, l4, l5, l6, l7, l8, l9, l10, l11, l12, l13, l15, l16, l17, l19, l20, l25, l27, l30, l31, l32, l33, l39, l40, l60, l61, l99, l100, l120, l256, l999, l1999, l99999, lm, nI_add, pk_mul, nI_leI, nI_ltI, nI_eq, wuS_1, wuS_2, wuA_1, wuA_21, wuA_22, nI_m1, m1_nI, nIlt_m1, m1lt_nI, Nat.reduceEqDiff, Nat.reduceAdd, Nat.reduceMul, Nat.reduceSub, Nat.reduceLT, Nat.reduceLeDiff, reduceIte, if_true, if_false, Bool.false_eq_true, Nat.add_zero, Nat.zero_add, ne_eq, not_false_eq_true, not_true_eq_false, Nat.not_lt_zero, Nat.add_left_cancel_iff, Nat.add_right_cancel_iff, eq_self, upd_s, pk_sub, nI_pm, Nat.add_sub_cancel, List.length_cons, List.length_nil, Nat.add_eq_zero_iff, Nat.succ_ne_zero, and_false, false_and, l14, l18, l21, l23, l24, l26, l28, l29, l34, l35, l36, l41, l42, l43, l45, l47, l48, l49, l50, l51, l52, l57, l58, l59, l62, l63, l64, l96, l97, l98, l101, l102, l103, l104, l105, l106, l107, l108, l109, l110, l111, l112, l113, l114, l115, l116, l117, l118, l119, l121, l122, l127, l255, l700, l1320, l1000000, q6]
    rw [if_neg (show ¬ (6 ≤ d ∧ (kd b n s = 48 ∨ kd b n s = 97 ∨ kd b n s = 40)) by omega)]
    split
    · exact go
    · split
      · exact go
      · split <;> exact go
  · simp (disch := omega) only [xB_s, xB2_s, xGet_s, xPut_s, xAld_s, xAst_s, xIf_t, xBool_s, l0, l1, l2, l3, l4, l5, l6, l7, l8, l9, l10, l11, l12, l13, l15, l16, l17, l19, l20, l25, l27, l30, l31, l32, l33, l39, l40, l60, l61, l99, l100, l120, l256, l999, l1999, l99999, lm, nI_add, pk_mul, nI_leI, nI_ltI, nI_eq, wuS_1, wuS_2, wuA_1, wuA_21, wuA_22, nI_m1, m1_nI, nIlt_m1, m1lt_nI, Nat.reduceEqDiff, Nat.reduceAdd, Nat.reduceMul, Nat.reduceSub, Nat.reduceLT, Nat.reduceLeDiff, reduceIte, if_true, if_false, Bool.false_eq_true, Nat.add_zero, Nat.zero_add, ne_eq, not_false_eq_true, not_true_eq_false, Nat.not_lt_zero, Nat.add_left_cancel_iff, Nat.add_right_cancel_iff, eq_self, upd_s, pk_sub, nI_pm, Nat.add_sub_cancel, List.length_cons, List.length_nil, Nat.add_eq_zero_iff, Nat.succ_ne_zero, and_false, false_and, l14, l18, l21, l23, l24, l26, l28, l29, l34, l35, l36, l41, l42, l43, l45, l47, l48, l49, l50, l51, l52, l57, l58, l59, l62, l63, l64, l96, l97, l98, l101, l102, l103, l104, l105, l106, l107, l108, l109, l110, l111, l112, l113, l114, l115, l116, l117, l118, l119, l121, l122, l127, l255, l700, l1320, l1000000, q6]
    by_cases q1 : kd b n s = 48
    · rw [if_pos q1, if_pos ⟨by omega, Or.inl q1⟩]; exact rfs
    · rw [if_neg q1]
      by_cases q2 : kd b n s = 97
      · rw [if_pos q2, if_pos ⟨by omega, Or.inr (Or.inl q2)⟩]; exact rfs
      · rw [if_neg q2]
        by_cases q3 : kd b n s = 40
        · rw [if_pos q3, if_pos ⟨by omega, Or.inr (Or.inr q3)⟩]; exact rfs
        · rw [if_neg q3, if_neg (by omega)]; exact go
/-! where no part can begin -/
def XFs (f : Nat × Nat) (w : wS) (r : Int32 × wS) : Prop := r.1 = nI 0 ∧ XF f w r.2
theorem fl_product {rec : Int32 → wS → Option (Int32 × wS)} {d : Nat} {o : wO} {w : wS} {f : Nat × Nat} (h : wpO (L_X2_part rec o (nI d) w) (XFs f w)) : wpO (L_X2_product rec o (nI d) w) (XFs f w) := by
  unfold L_X2_product
  refine wp_B2 h ?_
  rintro v w1 ⟨c1, c2⟩
  have c1 : v = nI 0 := c1
  rw [c1]
  unfold P_X2_product_8
  refine wp_for 0 (fun i σ => σ = (nI d, nI 0, nI 0, w1)) ?_ (i := 0) (by omega) (by omega) rfl
  rintro i _ kk2 hi rfl _
  show wpO (B_X2_product_8 rec o (fun x1 x2 x3 w => kk2 (x1, x2, x3, w)) _ (nI d) (nI 0) (nI 0) w1) _
  unfold B_X2_product_8 J_X2_product_89
  simp (disch := omega) only [xB_s, xB2_s, xGet_s, xPut_s, xAld_s, xAst_s, xIf_t, xBool_s, l0, l1, l2, l3, l4, l5, l6, l7, l8, l9, l10, l11, l12, l13, l15, l16, l17, l19, l20, l25, l27, l30, l31, l32, l33, l39, l40, l60, l61, l99, l100, l120, l256, l999, l1999, l99999, lm, nI_add, pk_mul, nI_leI, nI_ltI, nI_eq, wuS_1, wuS_2, wuA_1, wuA_21, wuA_22, nI_m1, m1_nI, nIlt_m1, m1lt_nI, Nat.reduceEqDiff, Nat.reduceAdd, Nat.reduceMul, Nat.reduceSub, Nat.reduceLT, Nat.reduceLeDiff, reduceIte, if_true, if_false, Bool.false_eq_true, Nat.add_zero, Nat.zero_add, ne_eq, not_false_eq_true, not_true_eq_false, Nat.not_lt_zero, Nat.add_left_cancel_iff, Nat.add_right_cancel_iff, eq_self, upd_s, pk_sub, nI_pm, Nat.add_sub_cancel, List.length_cons, List.length_nil, Nat.add_eq_zero_iff, Nat.succ_ne_zero, and_false, false_and, l14, l18, l21, l23, l24, l26, l28, l29, l34, l35, l36, l41, l42, l43, l45, l47, l48, l49, l50, l51, l52, l57, l58, l59, l62, l63, l64, l96, l97, l98, l101, l102, l103, l104, l105, l106, l107, l108, l109, l110, l111, l112, l113, l114, l115, l116, l117, l118, l119, l121, l122, l127, l255, l700, l1320, l1000000]
  exact wp_some ⟨rfl, c2⟩
theorem fl_sum {rec : Int32 → wS → Option (Int32 × wS)} {d : Nat} {o : wO} {w : wS} {f : Nat × Nat} (h : wpO (L_X2_product rec o (nI d) w) (XFs f w)) : wpO (L_X2_sum rec o (nI d) w) (XFs f w) := by
  unfold L_X2_sum
  refine wp_B2 h ?_
  rintro v w1 ⟨c1, c2⟩
  have c1 : v = nI 0 := c1
  rw [c1]
  unfold P_X2_sum_8
  refine wp_for 0 (fun i σ => σ = (nI d, nI 0, nI 0, w1)) ?_ (i := 0) (by omega) (by omega) rfl
  rintro i _ kk2 hi rfl _
  show wpO (B_X2_sum_8 rec o (fun x1 x2 x3 w => kk2 (x1, x2, x3, w)) _ (nI d) (nI 0) (nI 0) w1) _
  unfold B_X2_sum_8 J_X2_sum_89
  simp (disch := omega) only [xB_s, xB2_s, xGet_s, xPut_s, xAld_s, xAst_s, xIf_t, xBool_s, l0, l1, l2, l3, l4, l5, l6, l7, l8, l9, l10, l11, l12, l13, l15, l16, l17, l19, l20, l25, l27, l30, l31, l32, l33, l39, l40, l60, l61, l99, l100, l120, l256, l999, l1999, l99999, lm, nI_add, pk_mul, nI_leI, nI_ltI, nI_eq, wuS_1, wuS_2, wuA_1, wuA_21, wuA_22, nI_m1, m1_nI, nIlt_m1, m1lt_nI, Nat.reduceEqDiff, Nat.reduceAdd, Nat.reduceMul, Nat.reduceSub, Nat.reduceLT, Nat.reduceLeDiff, reduceIte, if_true, if_false, Bool.false_eq_true, Nat.add_zero, Nat.zero_add, ne_eq, not_false_eq_true, not_true_eq_false, Nat.not_lt_zero, Nat.add_left_cancel_iff, Nat.add_right_cancel_iff, eq_self, upd_s, pk_sub, nI_pm, Nat.add_sub_cancel, List.length_cons, List.length_nil, Nat.add_eq_zero_iff, Nat.succ_ne_zero, and_false, false_and, l14, l18, l21, l23, l24, l26, l28, l29, l34, l35, l36, l41, l42, l43, l45, l47, l48, l49, l50, l51, l52, l57, l58, l59, l62, l63, l64, l96, l97, l98, l101, l102, l103, l104, l105, l106, l107, l108, l109, l110, l111, l112, l113, l114, l115, l116, l117, l118, l119, l121, l122, l127, l255, l700, l1320, l1000000]
  exact wp_some ⟨rfl, c2⟩
theorem fl_cmp {rec : Int32 → wS → Option (Int32 × wS)} {d : Nat} {o : wO} {w : wS} {f : Nat × Nat} (h : wpO (L_X2_sum rec o (nI d) w) (XFs f w)) : wpO (L_X2_compared rec o (nI d) w) (XFs f w) := by
  unfold L_X2_compared
  refine wp_B2 h ?_
  rintro v w1 ⟨c1, c2⟩
  have c1 : v = nI 0 := c1
  simp (disch := omega) only [xB_s, xB2_s, xGet_s, xPut_s, xAld_s, xAst_s, xIf_t, xBool_s, l0, l1, l2, l3, l4, l5, l6, l7, l8, l9, l10, l11, l12, l13, l15, l16, l17, l19, l20, l25, l27, l30, l31, l32, l33, l39, l40, l60, l61, l99, l100, l120, l256, l999, l1999, l99999, lm, nI_add, pk_mul, nI_leI, nI_ltI, nI_eq, wuS_1, wuS_2, wuA_1, wuA_21, wuA_22, nI_m1, m1_nI, nIlt_m1, m1lt_nI, Nat.reduceEqDiff, Nat.reduceAdd, Nat.reduceMul, Nat.reduceSub, Nat.reduceLT, Nat.reduceLeDiff, reduceIte, if_true, if_false, Bool.false_eq_true, Nat.add_zero, Nat.zero_add, ne_eq, not_false_eq_true, not_true_eq_false, Nat.not_lt_zero, Nat.add_left_cancel_iff, Nat.add_right_cancel_iff, eq_self, upd_s, pk_sub, nI_pm, Nat.add_sub_cancel, List.length_cons, List.length_nil, Nat.add_eq_zero_iff, Nat.succ_ne_zero, and_false, false_and, l14, l18, l21, l23, l24, l26, l28, l29, l34, l35, l36, l41, l42, l43, l45, l47, l48, l49, l50, l51, l52, l57, l58, l59, l62, l63, l64, l96, l97, l98, l101, l102, l103, l104, l105, l106, l107, l108, l109, l110, l111, l112, l113, l114, l115, l116, l117, l118, l119, l121, l122, l127, l255, l700, l1320, l1000000, c1]
  exact wp_some ⟨rfl, c2⟩
theorem fl_not {b : Nat → Nat} {n s : Nat} {rec : Int32 → wS → Option (Int32 × wS)} {d : Nat} {o : wO} {w : wS} {f : Nat × Nat} (hT : TX b n s w) (hk : ¬ kd b n s = 97) (h : wpO (L_X2_compared rec o (nI d) w) (XFs f w)) : wpO (L_X2_denied rec o (nI d) w) (XFs f w) := by
  have ei := x_is15 (o := o) hT
  rw [if_neg (fun z => hk z.1)] at ei
  unfold L_X2_denied P_X2_denied_4
  simp (disch := omega) only [xB_s, xB2_s, xGet_s, xPut_s, xAld_s, xAst_s, xIf_t, xBool_s, l0, l1, l2, l3, l4, l5, l6, l7, l8, l9, l10, l11, l12, l13, l15, l16, l17, l19, l20, l25, l27, l30, l31, l32, l33, l39, l40, l60, l61, l99, l100, l120, l256, l999, l1999, l99999, lm, nI_add, pk_mul, nI_leI, nI_ltI, nI_eq, wuS_1, wuS_2, wuA_1, wuA_21, wuA_22, nI_m1, m1_nI, nIlt_m1, m1lt_nI, Nat.reduceEqDiff, Nat.reduceAdd, Nat.reduceMul, Nat.reduceSub, Nat.reduceLT, Nat.reduceLeDiff, reduceIte, if_true, if_false, Bool.false_eq_true, Nat.add_zero, Nat.zero_add, ne_eq, not_false_eq_true, not_true_eq_false, Nat.not_lt_zero, Nat.add_left_cancel_iff, Nat.add_right_cancel_iff, eq_self, upd_s, pk_sub, nI_pm, Nat.add_sub_cancel, List.length_cons, List.length_nil, Nat.add_eq_zero_iff, Nat.succ_ne_zero, and_false, false_and, l14, l18, l21, l23, l24, l26, l28, l29, l34, l35, l36, l41, l42, l43, l45, l47, l48, l49, l50, l51, l52, l57, l58, l59, l62, l63, l64, l96, l97, l98, l101, l102, l103, l104, l105, l106, l107, l108, l109, l110, l111, l112, l113, l114, l115, l116, l117, l118, l119, l121, l122, l127, l255, l700, l1320, l1000000]
  refine wp_for 0 (fun i σ => σ = (nI d, nI 0, nI 0, w)) ?_ (i := 0) (by omega) (by omega) rfl
  rintro i _ kk2 hi rfl _
  show wpO (B_X2_denied_4 rec o (fun x1 x2 x3 w => kk2 (x1, x2, x3, w)) _ _ (nI d) (nI 0) (nI 0) w) _
  unfold B_X2_denied_4 J_X2_denied_50
  simp (disch := omega) only [xB_s, xB2_s, xGet_s, xPut_s, xAld_s, xAst_s, xIf_t, xBool_s, l0, l1, l2, l3, l4, l5, l6, l7, l8, l9, l10, l11, l12, l13, l15, l16, l17, l19, l20, l25, l27, l30, l31, l32, l33, l39, l40, l60, l61, l99, l100, l120, l256, l999, l1999, l99999, lm, nI_add, pk_mul, nI_leI, nI_ltI, nI_eq, wuS_1, wuS_2, wuA_1, wuA_21, wuA_22, nI_m1, m1_nI, nIlt_m1, m1lt_nI, Nat.reduceEqDiff, Nat.reduceAdd, Nat.reduceMul, Nat.reduceSub, Nat.reduceLT, Nat.reduceLeDiff, reduceIte, if_true, if_false, Bool.false_eq_true, Nat.add_zero, Nat.zero_add, ne_eq, not_false_eq_true, not_true_eq_false, Nat.not_lt_zero, Nat.add_left_cancel_iff, Nat.add_right_cancel_iff, eq_self, upd_s, pk_sub, nI_pm, Nat.add_sub_cancel, List.length_cons, List.length_nil, Nat.add_eq_zero_iff, Nat.succ_ne_zero, and_false, false_and, l14, l18, l21, l23, l24, l26, l28, l29, l34, l35, l36, l41, l42, l43, l45, l47, l48, l49, l50, l51, l52, l57, l58, l59, l62, l63, l64, l96, l97, l98, l101, l102, l103, l104, l105, l106, l107, l108, l109, l110, l111, l112, l113, l114, l115, l116, l117, l118, l119, l121, l122, l127, l255, l700, l1320, l1000000, ei]
  refine wp_B2 h ?_
  rintro v w1 ⟨c1, c2⟩
  have c1 : v = nI 0 := c1
  rw [c1]
  unfold P_X2_denied_59
  refine wp_for 0 (fun i σ => σ = (nI 0, nI 0, nI 0, w1)) ?_ (i := 0) (by omega) (by omega) rfl
  rintro i _ kk2 hi rfl _
  show wpO (B_X2_denied_59 rec o (fun x2 x3 x4 w => kk2 (x2, x3, x4, w)) _ (nI 0) (nI 0) (nI 0) w1) _
  unfold B_X2_denied_59 J_X2_denied_82
  simp (disch := omega) only [xB_s, xB2_s, xGet_s, xPut_s, xAld_s, xAst_s, xIf_t, xBool_s, l0, l1, l2, l3, l4, l5, l6, l7, l8, l9, l10, l11, l12, l13, l15, l16, l17, l19, l20, l25, l27, l30, l31, l32, l33, l39, l40, l60, l61, l99, l100, l120, l256, l999, l1999, l99999, lm, nI_add, pk_mul, nI_leI, nI_ltI, nI_eq, wuS_1, wuS_2, wuA_1, wuA_21, wuA_22, nI_m1, m1_nI, nIlt_m1, m1lt_nI, Nat.reduceEqDiff, Nat.reduceAdd, Nat.reduceMul, Nat.reduceSub, Nat.reduceLT, Nat.reduceLeDiff, reduceIte, if_true, if_false, Bool.false_eq_true, Nat.add_zero, Nat.zero_add, ne_eq, not_false_eq_true, not_true_eq_false, Nat.not_lt_zero, Nat.add_left_cancel_iff, Nat.add_right_cancel_iff, eq_self, upd_s, pk_sub, nI_pm, Nat.add_sub_cancel, List.length_cons, List.length_nil, Nat.add_eq_zero_iff, Nat.succ_ne_zero, and_false, false_and, l14, l18, l21, l23, l24, l26, l28, l29, l34, l35, l36, l41, l42, l43, l45, l47, l48, l49, l50, l51, l52, l57, l58, l59, l62, l63, l64, l96, l97, l98, l101, l102, l103, l104, l105, l106, l107, l108, l109, l110, l111, l112, l113, l114, l115, l116, l117, l118, l119, l121, l122, l127, l255, l700, l1320, l1000000]
  exact wp_some ⟨rfl, c2⟩
theorem fl_and {rec : Int32 → wS → Option (Int32 × wS)} {d : Nat} {o : wO} {w : wS} {f : Nat × Nat} (h : wpO (L_X2_denied rec o (nI d) w) (XFs f w)) : wpO (L_X2_allOf rec o (nI d) w) (XFs f w) := by
  unfold L_X2_allOf
  refine wp_B2 h ?_
  rintro v w1 ⟨c1, c2⟩
  have c1 : v = nI 0 := c1
  rw [c1]
  unfold P_X2_allOf_8
  refine wp_for 0 (fun i σ => σ = (nI d, nI 0, nI 0, w1)) ?_ (i := 0) (by omega) (by omega) rfl
  rintro i _ kk2 hi rfl _
  show wpO (B_X2_allOf_8 rec o (fun x1 x2 x3 w => kk2 (x1, x2, x3, w)) _ (nI d) (nI 0) (nI 0) w1) _
  unfold B_X2_allOf_8 J_X2_allOf_67
  simp (disch := omega) only [xB_s, xB2_s, xGet_s, xPut_s, xAld_s, xAst_s, xIf_t, xBool_s, l0, l1, l2, l3, l4, l5, l6, l7, l8, l9, l10, l11, l12, l13, l15, l16, l17, l19, l20, l25, l27, l30, l31, l32, l33, l39, l40, l60, l61, l99, l100, l120, l256, l999, l1999, l99999, lm, nI_add, pk_mul, nI_leI, nI_ltI, nI_eq, wuS_1, wuS_2, wuA_1, wuA_21, wuA_22, nI_m1, m1_nI, nIlt_m1, m1lt_nI, Nat.reduceEqDiff, Nat.reduceAdd, Nat.reduceMul, Nat.reduceSub, Nat.reduceLT, Nat.reduceLeDiff, reduceIte, if_true, if_false, Bool.false_eq_true, Nat.add_zero, Nat.zero_add, ne_eq, not_false_eq_true, not_true_eq_false, Nat.not_lt_zero, Nat.add_left_cancel_iff, Nat.add_right_cancel_iff, eq_self, upd_s, pk_sub, nI_pm, Nat.add_sub_cancel, List.length_cons, List.length_nil, Nat.add_eq_zero_iff, Nat.succ_ne_zero, and_false, false_and, l14, l18, l21, l23, l24, l26, l28, l29, l34, l35, l36, l41, l42, l43, l45, l47, l48, l49, l50, l51, l52, l57, l58, l59, l62, l63, l64, l96, l97, l98, l101, l102, l103, l104, l105, l106, l107, l108, l109, l110, l111, l112, l113, l114, l115, l116, l117, l118, l119, l121, l122, l127, l255, l700, l1320, l1000000]
  exact wp_some ⟨rfl, c2⟩
theorem fl_or {rec : Int32 → wS → Option (Int32 × wS)} {d : Nat} {o : wO} {w : wS} {f : Nat × Nat} (h : wpO (L_X2_allOf rec o (nI d) w) (XFs f w)) : wpO (J_X2_expr_58 rec o (nI d) w) (XFs f w) := by
  unfold J_X2_expr_58
  refine wp_B2 h ?_
  rintro v w1 ⟨c1, c2⟩
  have c1 : v = nI 0 := c1
  rw [c1]
  unfold P_X2_expr_67
  refine wp_for 0 (fun i σ => σ = (nI d, nI 0, nI 0, w1)) ?_ (i := 0) (by omega) (by omega) rfl
  rintro i _ kk2 hi rfl _
  show wpO (B_X2_expr_67 rec o (fun x1 x2 x3 w => kk2 (x1, x2, x3, w)) _ (nI d) (nI 0) (nI 0) w1) _
  unfold B_X2_expr_67 J_X2_expr_127
  simp (disch := omega) only [xB_s, xB2_s, xGet_s, xPut_s, xAld_s, xAst_s, xIf_t, xBool_s, l0, l1, l2, l3, l4, l5, l6, l7, l8, l9, l10, l11, l12, l13, l15, l16, l17, l19, l20, l25, l27, l30, l31, l32, l33, l39, l40, l60, l61, l99, l100, l120, l256, l999, l1999, l99999, lm, nI_add, pk_mul, nI_leI, nI_ltI, nI_eq, wuS_1, wuS_2, wuA_1, wuA_21, wuA_22, nI_m1, m1_nI, nIlt_m1, m1lt_nI, Nat.reduceEqDiff, Nat.reduceAdd, Nat.reduceMul, Nat.reduceSub, Nat.reduceLT, Nat.reduceLeDiff, reduceIte, if_true, if_false, Bool.false_eq_true, Nat.add_zero, Nat.zero_add, ne_eq, not_false_eq_true, not_true_eq_false, Nat.not_lt_zero, Nat.add_left_cancel_iff, Nat.add_right_cancel_iff, eq_self, upd_s, pk_sub, nI_pm, Nat.add_sub_cancel, List.length_cons, List.length_nil, Nat.add_eq_zero_iff, Nat.succ_ne_zero, and_false, false_and, l14, l18, l21, l23, l24, l26, l28, l29, l34, l35, l36, l41, l42, l43, l45, l47, l48, l49, l50, l51, l52, l57, l58, l59, l62, l63, l64, l96, l97, l98, l101, l102, l103, l104, l105, l106, l107, l108, l109, l110, l111, l112, l113, l114, l115, l116, l117, l118, l119, l121, l122, l127, l255, l700, l1320, l1000000]
  exact wp_some ⟨rfl, c2⟩
theorem pOr_f {b : Nat → Nat} {n mn d s : Nat} {pr : Nat → Nat → Res} (h1 : ¬ kd b n s = 48) (h2 : ¬ kd b n s = 97) (h3 : ¬ kd b n s = 40) : pOr b n mn pr d s = .inl (1, s) := by
  have hw : ¬ kw b n s = some 15 := fun z => h2 ((kw_iff (by omega)).mp z).1
  have e1 : pPart b n mn pr d s = .inl (1, s) := by unfold pPart; rw [if_neg h3, if_neg h1, if_neg h2]
  have e2 : pCmp b n mn pr d s = .inl (1, s) := by unfold pCmp pSum pProd; rw [e1]; rfl
  unfold pOr pAnd pNot
  rw [pNots_n hw, e2]; rfl
theorem x_expr6 {b : Nat → Nat} {n mn d s m : Nat} {rec : Int32 → wS → Option (Int32 × wS)} {pr : Nat → Nat → Res} {o : wO} {w : wS} (hd : 6 ≤ d) (hd2 : d < 100) (h : XP b n mn s m w) : wpO (L_X2_expr rec o (nI d) w) (XQ b n mn m w (pEx b n mn pr d s)) := by
  have hk := h.k
  have rfs : wpO (xB2 (L_X2_refuse o (nI 2) w) fun v w => xB (xBool v) fun v => some (v, w)) (XQ b n mn m w (.inl (2, s))) := by
    refine wp_B2 (x_refuse (k := 2) h.1) ?_
    rintro a w' ⟨g1, g2⟩
    have g1 : a = nI 0 := g1
    simp (disch := omega) only [xB_s, xB2_s, xGet_s, xPut_s, xAld_s, xAst_s, xIf_t, xBool_s, l0, l1, l2, l3, l4, l5, l6, l7, l8, l9, l10, l11, l12, l13, l15, l16, l17, l19, l20, l25, l27, l30, l31, l32, l33, l39, l40, l60, l61, l99, l100, l120, l256, l999, l1999, l99999, lm, nI_add, pk_mul, nI_leI, nI_ltI, nI_eq, wuS_1, wuS_2, wuA_1, wuA_21, wuA_22, nI_m1, m1_nI, nIlt_m1, m1lt_nI, Nat.reduceEqDiff, Nat.reduceAdd, Nat.reduceMul, Nat.reduceSub, Nat.reduceLT, Nat.reduceLeDiff, reduceIte, if_true, if_false, Bool.false_eq_true, Nat.add_zero, Nat.zero_add, ne_eq, not_false_eq_true, not_true_eq_false, Nat.not_lt_zero, Nat.add_left_cancel_iff, Nat.add_right_cancel_iff, eq_self, upd_s, pk_sub, nI_pm, Nat.add_sub_cancel, List.length_cons, List.length_nil, Nat.add_eq_zero_iff, Nat.succ_ne_zero, and_false, false_and, l14, l18, l21, l23, l24, l26, l28, l29, l34, l35, l36, l41, l42, l43, l45, l47, l48, l49, l50, l51, l52, l57, l58, l59, l62, l63, l64, l96, l97, l98, l101, l102, l103, l104, l105, l106, l107, l108, l109, l110, l111, l112, l113, l114, l115, l116, l117, l118, l119, l121, l122, l127, l255, l700, l1320, l1000000, g1]
    exact wp_some ⟨rfl, g2⟩
  unfold L_X2_expr J_X2_expr_36 J_X2_expr_41 pEx
  simp (disch := omega) only [xB_s, xB2_s, xGet_s, xPut_s, xAld_s, xAst_s, xIf_t, xBool_s, l0, l1, l2, l3, l4, l5, l6, l7, l8, l9, l10, l11, l12, l13, l15, l16, l17, l19, l20, l25, l27, l30, l31, l32, l33, l39, l40, l60, l61, l99, l100, l120, l256, l999, l1999, l99999, lm, nI_add, pk_mul, nI_leI, nI_ltI, nI_eq, wuS_1, wuS_2, wuA_1, wuA_21, wuA_22, nI_m1, m1_nI, nIlt_m1, m1lt_nI, Nat.reduceEqDiff, Nat.reduceAdd, Nat.reduceMul, Nat.reduceSub, Nat.reduceLT, Nat.reduceLeDiff, reduceIte, if_true, if_false, Bool.false_eq_true, Nat.add_zero, Nat.zero_add, ne_eq, not_false_eq_true, not_true_eq_false, Nat.not_lt_zero, Nat.add_left_cancel_iff, Nat.add_right_cancel_iff, eq_self, upd_s, pk_sub, nI_pm, Nat.add_sub_cancel, List.length_cons, List.length_nil, Nat.add_eq_zero_iff, Nat.succ_ne_zero, and_false, false_and, l14, l18, l21, l23, l24, l26, l28, l29, l34, l35, l36, l41, l42, l43, l45, l47, l48, l49, l50, l51, l52, l57, l58, l59, l62, l63, l64, l96, l97, l98, l101, l102, l103, l104, l105, l106, l107, l108, l109, l110, l111, l112, l113, l114, l115, l116, l117, l118, l119, l121, l122, l127, l255, l700, l1320, l1000000, h.1.2.2.1, show (d < 6) = False from eq_false (by omega)]
  by_cases q1 : kd b n s = 48
  · rw [if_pos q1, if_pos ⟨by omega, Or.inl q1⟩]; exact rfs
  · rw [if_neg q1]
    by_cases q2 : kd b n s = 97
    · rw [if_pos q2, if_pos ⟨by omega, Or.inr (Or.inl q2)⟩]; exact rfs
    · rw [if_neg q2]
      by_cases q3 : kd b n s = 40
      · rw [if_pos q3, if_pos ⟨by omega, Or.inr (Or.inr q3)⟩]; exact rfs
      · rw [if_neg q3, if_neg (by omega), pOr_f q1 q2 q3]
        have hp : wpO (L_X2_part rec o (nI d) w) (XFs (1, s) w) := by
          unfold L_X2_part
          simp (disch := omega) only [xB_s, xB2_s, xGet_s, xPut_s, xAld_s, xAst_s, xIf_t, xBool_s, l0, l1, l2, l3, l4, l5, l6, l7, l8, l9, l10, l11, l12, l13, l15, l16, l17, l19, l20, l25, l27, l30, l31, l32, l33, l39, l40, l60, l61, l99, l100, l120, l256, l999, l1999, l99999, lm, nI_add, pk_mul, nI_leI, nI_ltI, nI_eq, wuS_1, wuS_2, wuA_1, wuA_21, wuA_22, nI_m1, m1_nI, nIlt_m1, m1lt_nI, Nat.reduceEqDiff, Nat.reduceAdd, Nat.reduceMul, Nat.reduceSub, Nat.reduceLT, Nat.reduceLeDiff, reduceIte, if_true, if_false, Bool.false_eq_true, Nat.add_zero, Nat.zero_add, ne_eq, not_false_eq_true, not_true_eq_false, Nat.not_lt_zero, Nat.add_left_cancel_iff, Nat.add_right_cancel_iff, eq_self, upd_s, pk_sub, nI_pm, Nat.add_sub_cancel, List.length_cons, List.length_nil, Nat.add_eq_zero_iff, Nat.succ_ne_zero, and_false, false_and, l14, l18, l21, l23, l24, l26, l28, l29, l34, l35, l36, l41, l42, l43, l45, l47, l48, l49, l50, l51, l52, l57, l58, l59, l62, l63, l64, l96, l97, l98, l101, l102, l103, l104, l105, l106, l107, l108, l109, l110, l111, l112, l113, l114, l115, l116, l117, l118, l119, l121, l122, l127, l255, l700, l1320, l1000000, h.1.2.2.1, q1, q2, q3]
          refine wp_B2 (x_refuse (k := 1) h.1) ?_
          rintro a w' ⟨g1, g2⟩
          have g1 : a = nI 0 := g1
          simp (disch := omega) only [xB_s, xB2_s, xGet_s, xPut_s, xAld_s, xAst_s, xIf_t, xBool_s, l0, l1, l2, l3, l4, l5, l6, l7, l8, l9, l10, l11, l12, l13, l15, l16, l17, l19, l20, l25, l27, l30, l31, l32, l33, l39, l40, l60, l61, l99, l100, l120, l256, l999, l1999, l99999, lm, nI_add, pk_mul, nI_leI, nI_ltI, nI_eq, wuS_1, wuS_2, wuA_1, wuA_21, wuA_22, nI_m1, m1_nI, nIlt_m1, m1lt_nI, Nat.reduceEqDiff, Nat.reduceAdd, Nat.reduceMul, Nat.reduceSub, Nat.reduceLT, Nat.reduceLeDiff, reduceIte, if_true, if_false, Bool.false_eq_true, Nat.add_zero, Nat.zero_add, ne_eq, not_false_eq_true, not_true_eq_false, Nat.not_lt_zero, Nat.add_left_cancel_iff, Nat.add_right_cancel_iff, eq_self, upd_s, pk_sub, nI_pm, Nat.add_sub_cancel, List.length_cons, List.length_nil, Nat.add_eq_zero_iff, Nat.succ_ne_zero, and_false, false_and, l14, l18, l21, l23, l24, l26, l28, l29, l34, l35, l36, l41, l42, l43, l45, l47, l48, l49, l50, l51, l52, l57, l58, l59, l62, l63, l64, l96, l97, l98, l101, l102, l103, l104, l105, l106, l107, l108, l109, l110, l111, l112, l113, l114, l115, l116, l117, l118, l119, l121, l122, l127, l255, l700, l1320, l1000000, g1]
          exact wp_some ⟨rfl, g2⟩
        exact wp_mono (fl_or (fl_and (fl_not h.1 q2 (fl_cmp (fl_sum (fl_product hp)))))) (fun r hr => hr)
theorem x_exprN {b : Nat → Nat} {n mn : Nat} {o : wO} (hmn : mn = 5 ∨ mn = 6) : ∀ {k d s m : Nat} {w : wS}, k + d = 6 → XP b n mn s m w → wpO (L_X2_exprN (k + 1) o (nI d) w) (XQ b n mn m w (pExN b n mn (k + 1) d s))
  | 0, d, s, m, w, hk, h => by
    show wpO (L_X2_expr (L_X2_exprN 0 o) o (nI d) w) (XQ b n mn m w (pEx b n mn (pExN b n mn 0) d s))
    exact x_expr6 (by omega) (by omega) h
  | k + 1, d, s, m, w, hk, h => by
    show wpO (L_X2_expr (L_X2_exprN (k + 1) o) o (nI d) w) (XQ b n mn m w (pEx b n mn (pExN b n mn (k + 1)) d s))
    exact x_expr hmn (by omega) (B := 5 * (k + 1) + 1) (by omega) (fun s hs => pExN_g (by omega) hs) (fun s m w hx => x_exprN hmn (by omega) hx) h
end
