section
/-! ===== a rule's line: rings ===== -/
theorem x_told0 {b : Nat → Nat} {n s : Nat} {o : wO} {w : wS} (h : TX b n s w) (h5 : szT b n s = 5) (hN : w.2.2.2.2 100009 = .null) (hO : oR o = 0) (h107 : w.2.2.2.2 107 = .ref (oT o)) (h101 : w.1 101 = nI 0) : wpO (L_X2_ruleTold o (nI 0) w) (fun r => match pExN b n 5 7 0 (nxT b n s) with
    | .inl f => r.1 = nI 0 ∧ r.2.1 = o ∧ Fr [101, 102, 104, 105, 202, 203, 204] [4] w r.2.2 ∧ r.2.2.1 101 = nI f.1 ∧ r.2.2.1 102 = nI f.2
    | .inr (E, s') => r.1 = nI 1 ∧ r.2.1 = oNew o (nI 0) E.length ∧ ∃ w1, Fr [101, 102, 104, 105, 202, 203, 204] [4] w w1 ∧ TX b n s' w1 ∧ w1.1 101 = nI 0 ∧ eA (w1.2.1 4) 0 E ∧ r.2.2 = wuR (wNew (nI 0) E.length w1) 100009 (.ref (oR (oNew o (nI 0) E.length) + 0))) := by
  have r0 := xRef_t h107
  have hn : n ≤ 700 := h.1.1
  have hs5 : s + 5 ≤ nxT b n s := by
    have := (sk_le (b := b) (n := n) (q := s + szT b n s) (szT_le h.2.1)).1
    unfold nxT
    omega
  unfold L_X2_ruleTold
  simp (disch := omega) only [xB_s, xB2_s, xGet_s, xPut_s, xAld_s, xAst_s, xIf_t, xBool_s, l0, l1, l2, l3, l4, l5, l6, l7, l8, l9, l10, l11, l12, l13, l15, l16, l17, l19, l20, l25, l27, l30, l31, l32, l33, l39, l40, l60, l61, l99, l100, l120, l256, l999, l1999, l99999, lm, nI_add, pk_mul, nI_leI, nI_ltI, nI_eq, wuS_1, wuS_2, wuA_1, wuA_21, wuA_22, nI_m1, m1_nI, nIlt_m1, m1lt_nI, Nat.reduceEqDiff, Nat.reduceAdd, Nat.reduceMul, Nat.reduceSub, Nat.reduceLT, Nat.reduceLeDiff, reduceIte, if_true, if_false, Bool.false_eq_true, Nat.add_zero, Nat.zero_add, ne_eq, not_false_eq_true, not_true_eq_false, Nat.not_lt_zero, Nat.add_left_cancel_iff, Nat.add_right_cancel_iff, eq_self, upd_s, pk_sub, nI_pm, Nat.add_sub_cancel, List.length_cons, List.length_nil, Nat.add_eq_zero_iff, Nat.succ_ne_zero, and_false, false_and, l14, l18, l21, l23, l24, l26, l28, l29, l34, l35, l36, l41, l42, l43, l45, l47, l48, l49, l50, l51, l52, l57, l58, l59, l62, l63, l64, l96, l97, l98, l101, l102, l103, l104, l105, l106, l107, l108, l109, l110, l111, l112, l113, l114, l115, l116, l117, l118, l119, l121, l122, l127, l255, l700, l1320, l1000000, r0, xIf_tt, hN]
  generalize hW : wuS (wuS w 105 (nI 0)) 104 (nI 0) = W
  have F0 : Fr [101, 102, 104, 105, 202, 203, 204] [4] w W := by rw [← hW]; exact (Fr.refl.S (by decide)).S (by decide)
  have w4 : W.1 104 = nI 0 := by rw [← hW]; simp (disch := omega) only [xB_s, xB2_s, xGet_s, xPut_s, xAld_s, xAst_s, xIf_t, xBool_s, l0, l1, l2, l3, l4, l5, l6, l7, l8, l9, l10, l11, l12, l13, l15, l16, l17, l19, l20, l25, l27, l30, l31, l32, l33, l39, l40, l60, l61, l99, l100, l120, l256, l999, l1999, l99999, lm, nI_add, pk_mul, nI_leI, nI_ltI, nI_eq, wuS_1, wuS_2, wuA_1, wuA_21, wuA_22, nI_m1, m1_nI, nIlt_m1, m1lt_nI, Nat.reduceEqDiff, Nat.reduceAdd, Nat.reduceMul, Nat.reduceSub, Nat.reduceLT, Nat.reduceLeDiff, reduceIte, if_true, if_false, Bool.false_eq_true, Nat.add_zero, Nat.zero_add, ne_eq, not_false_eq_true, not_true_eq_false, Nat.not_lt_zero, Nat.add_left_cancel_iff, Nat.add_right_cancel_iff, eq_self, upd_s, pk_sub, nI_pm, Nat.add_sub_cancel, List.length_cons, List.length_nil, Nat.add_eq_zero_iff, Nat.succ_ne_zero, and_false, false_and, l14, l18, l21, l23, l24, l26, l28, l29, l34, l35, l36, l41, l42, l43, l45, l47, l48, l49, l50, l51, l52, l57, l58, l59, l62, l63, l64, l96, l97, l98, l101, l102, l103, l104, l105, l106, l107, l108, l109, l110, l111, l112, l113, l114, l115, l116, l117, l118, l119, l121, l122, l127, l255, l700, l1320, l1000000]
  have w5 : W.1 105 = nI (mnB 5) := by rw [← hW]; simp (disch := omega) only [xB_s, xB2_s, xGet_s, xPut_s, xAld_s, xAst_s, xIf_t, xBool_s, l0, l1, l2, l3, l4, l5, l6, l7, l8, l9, l10, l11, l12, l13, l15, l16, l17, l19, l20, l25, l27, l30, l31, l32, l33, l39, l40, l60, l61, l99, l100, l120, l256, l999, l1999, l99999, lm, nI_add, pk_mul, nI_leI, nI_ltI, nI_eq, wuS_1, wuS_2, wuA_1, wuA_21, wuA_22, nI_m1, m1_nI, nIlt_m1, m1lt_nI, Nat.reduceEqDiff, Nat.reduceAdd, Nat.reduceMul, Nat.reduceSub, Nat.reduceLT, Nat.reduceLeDiff, reduceIte, if_true, if_false, Bool.false_eq_true, Nat.add_zero, Nat.zero_add, ne_eq, not_false_eq_true, not_true_eq_false, Nat.not_lt_zero, Nat.add_left_cancel_iff, Nat.add_right_cancel_iff, eq_self, upd_s, pk_sub, nI_pm, Nat.add_sub_cancel, List.length_cons, List.length_nil, Nat.add_eq_zero_iff, Nat.succ_ne_zero, and_false, false_and, l14, l18, l21, l23, l24, l26, l28, l29, l34, l35, l36, l41, l42, l43, l45, l47, l48, l49, l50, l51, l52, l57, l58, l59, l62, l63, l64, l96, l97, l98, l101, l102, l103, l104, l105, l106, l107, l108, l109, l110, l111, l112, l113, l114, l115, l116, l117, l118, l119, l121, l122, l127, l255, l700, l1320, l1000000]; rfl
  have tW : TX b n s W := h.of (fun k k1 k2 => by rw [← hW, wuS_1, wuS_1, if_neg (by omega), if_neg (by omega)]) (by rw [← hW]; rfl)
  have w1 : W.1 101 = nI 0 := by rw [← hW]; simp (disch := omega) only [xB_s, xB2_s, xGet_s, xPut_s, xAld_s, xAst_s, xIf_t, xBool_s, l0, l1, l2, l3, l4, l5, l6, l7, l8, l9, l10, l11, l12, l13, l15, l16, l17, l19, l20, l25, l27, l30, l31, l32, l33, l39, l40, l60, l61, l99, l100, l120, l256, l999, l1999, l99999, lm, nI_add, pk_mul, nI_leI, nI_ltI, nI_eq, wuS_1, wuS_2, wuA_1, wuA_21, wuA_22, nI_m1, m1_nI, nIlt_m1, m1lt_nI, Nat.reduceEqDiff, Nat.reduceAdd, Nat.reduceMul, Nat.reduceSub, Nat.reduceLT, Nat.reduceLeDiff, reduceIte, if_true, if_false, Bool.false_eq_true, Nat.add_zero, Nat.zero_add, ne_eq, not_false_eq_true, not_true_eq_false, Nat.not_lt_zero, Nat.add_left_cancel_iff, Nat.add_right_cancel_iff, eq_self, upd_s, pk_sub, nI_pm, Nat.add_sub_cancel, List.length_cons, List.length_nil, Nat.add_eq_zero_iff, Nat.succ_ne_zero, and_false, false_and, l14, l18, l21, l23, l24, l26, l28, l29, l34, l35, l36, l41, l42, l43, l45, l47, l48, l49, l50, l51, l52, l57, l58, l59, l62, l63, l64, l96, l97, l98, l101, l102, l103, l104, l105, l106, l107, l108, l109, l110, l111, l112, l113, l114, l115, l116, l117, l118, l119, l121, l122, l127, l255, l700, l1320, l1000000]; exact h101
  clear hW
  refine wp_B (x_adv tW.1 (szT_le tW.2.1) tW.2.2.2.1 tW.2.2.2.2) ?_
  rintro A1 ⟨f1, t1⟩
  have t1 : TX b n (nxT b n s) A1 := t1
  have G1 : Fr [101, 102, 104, 105, 202, 203, 204] [4] w A1 := F0.trans (f1.mono (by decide) (by simp))
  have hXP : XP b n 5 (nxT b n s) 0 A1 := ⟨t1, (f1.1 101 (by decide)).trans w1, (f1.1 104 (by decide)).trans w4, (f1.1 105 (by decide)).trans w5, by omega⟩
  refine wp_B2 (x_exprN (k := 6) (d := 0) (by decide) rfl hXP) ?_
  intro x A2 q
  have hg := pExN_g (b := b) (n := n) (mn := 5) (by decide) (k := 7) (d := 0) (s := nxT b n s) t1.2.1
  cases e : pExN b n 5 7 0 (nxT b n s) with
  | inl f =>
    have q : XQ b n 5 0 A1 (pExN b n 5 7 0 (nxT b n s)) (x, A2) := q
    rw [e] at q
    obtain ⟨q1, q2⟩ : x = nI 0 ∧ XF f A1 A2 := q
    simp (disch := omega) only [xB_s, xB2_s, xGet_s, xPut_s, xAld_s, xAst_s, xIf_t, xBool_s, l0, l1, l2, l3, l4, l5, l6, l7, l8, l9, l10, l11, l12, l13, l15, l16, l17, l19, l20, l25, l27, l30, l31, l32, l33, l39, l40, l60, l61, l99, l100, l120, l256, l999, l1999, l99999, lm, nI_add, pk_mul, nI_leI, nI_ltI, nI_eq, wuS_1, wuS_2, wuA_1, wuA_21, wuA_22, nI_m1, m1_nI, nIlt_m1, m1lt_nI, Nat.reduceEqDiff, Nat.reduceAdd, Nat.reduceMul, Nat.reduceSub, Nat.reduceLT, Nat.reduceLeDiff, reduceIte, if_true, if_false, Bool.false_eq_true, Nat.add_zero, Nat.zero_add, ne_eq, not_false_eq_true, not_true_eq_false, Nat.not_lt_zero, Nat.add_left_cancel_iff, Nat.add_right_cancel_iff, eq_self, upd_s, pk_sub, nI_pm, Nat.add_sub_cancel, List.length_cons, List.length_nil, Nat.add_eq_zero_iff, Nat.succ_ne_zero, and_false, false_and, l14, l18, l21, l23, l24, l26, l28, l29, l34, l35, l36, l41, l42, l43, l45, l47, l48, l49, l50, l51, l52, l57, l58, l59, l62, l63, l64, l96, l97, l98, l101, l102, l103, l104, l105, l106, l107, l108, l109, l110, l111, l112, l113, l114, l115, l116, l117, l118, l119, l121, l122, l127, l255, l700, l1320, l1000000, q1]
    exact wp_some ⟨rfl, rfl, G1.trans (q2.1.mono (by decide) (by decide)), q2.2.1, q2.2.2⟩
  | inr p =>
    obtain ⟨E, s'⟩ := p
    have q : XQ b n 5 0 A1 (pExN b n 5 7 0 (nxT b n s)) (x, A2) := q
    rw [e] at q hg
    obtain ⟨q1, q2, q3, q4, q5⟩ : x = nI 1 ∧ XG b n 5 s' 0 E A1 A2 := q
    have hl : E.length + nxT b n s ≤ s' ∧ s' ≤ n := ⟨hg.2.1, hg.2.2.1⟩
    have h104 : A2.1 104 = nI E.length := by
      have := q3.2.2.1
      rwa [Nat.zero_add] at this
    have hcl : (A2.1 104).toNatClampNeg = E.length := by rw [h104]; exact nI_clamp (by omega)
    have hC : xRuleC o (nI 0) A2 = true := decide_eq_true ⟨by rw [h104]; exact nI_pos (by omega), by rw [hcl]; omega, by decide, hO, by rw [q2.2.2, f1.2.2, F0.2.2]; exact h107⟩
    simp (disch := omega) only [xB_s, xB2_s, xGet_s, xPut_s, xAld_s, xAst_s, xIf_t, xBool_s, l0, l1, l2, l3, l4, l5, l6, l7, l8, l9, l10, l11, l12, l13, l15, l16, l17, l19, l20, l25, l27, l30, l31, l32, l33, l39, l40, l60, l61, l99, l100, l120, l256, l999, l1999, l99999, lm, nI_add, pk_mul, nI_leI, nI_ltI, nI_eq, wuS_1, wuS_2, wuA_1, wuA_21, wuA_22, nI_m1, m1_nI, nIlt_m1, m1lt_nI, Nat.reduceEqDiff, Nat.reduceAdd, Nat.reduceMul, Nat.reduceSub, Nat.reduceLT, Nat.reduceLeDiff, reduceIte, if_true, if_false, Bool.false_eq_true, Nat.add_zero, Nat.zero_add, ne_eq, not_false_eq_true, not_true_eq_false, Nat.not_lt_zero, Nat.add_left_cancel_iff, Nat.add_right_cancel_iff, eq_self, upd_s, pk_sub, nI_pm, Nat.add_sub_cancel, List.length_cons, List.length_nil, Nat.add_eq_zero_iff, Nat.succ_ne_zero, and_false, false_and, l14, l18, l21, l23, l24, l26, l28, l29, l34, l35, l36, l41, l42, l43, l45, l47, l48, l49, l50, l51, l52, l57, l58, l59, l62, l63, l64, l96, l97, l98, l101, l102, l103, l104, l105, l106, l107, l108, l109, l110, l111, l112, l113, l114, l115, l116, l117, l118, l119, l121, l122, l127, l255, l700, l1320, l1000000, q1]
    unfold xRule
    rw [hC, xIf_tt, hcl]
    exact wp_some ⟨rfl, rfl, A2, G1.trans (q2.mono (by decide) (by decide)), q3.1, q3.2.1, q5, rfl⟩
end
