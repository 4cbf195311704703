section
/-! ===== game ===== -/
theorem wp_and {α : Type} {o : Option α} {P Q : α → Prop} (h : wpO o P) (h' : wpO o Q) : wpO o (fun a => P a ∧ Q a) := by
  obtain ⟨a, rfl, ha⟩ := h
  obtain ⟨b, e, hb⟩ := h'
  obtain rfl := Option.some.inj e
  exact ⟨a, rfl, ha, hb⟩
theorem x_fromNow2 {t : Tn} {o : wO} {w : wS} (T : XT t o w) : wpO (L_X9_fromNow o w) (fun w' => (∀ c, c ≠ 32 → c ≠ 33 → c ≠ 34 → w'.2.1 c = w.2.1 c) ∧ w'.2.2.2.1 = w.2.2.2.1) := by
  have r1 := xRef_t T.2.1
  unfold L_X9_fromNow L_X1_begin_t0_x13 L_X5_copyFrom_x31_x13
  simp (disch := omega) only [xB_s, xB2_s, xGet_s, xPut_s, xAld_s, xAst_s, xIf_t, xBool_s, l0, l1, l2, l3, l4, l5, l6, l7, l8, l9, l10, l11, l12, l13, l15, l16, l17, l19, l20, l25, l27, l30, l31, l32, l33, l39, l40, l60, l61, l99, l100, l120, l256, l999, l1999, l99999, lm, nI_add, pk_mul, nI_leI, nI_ltI, nI_eq, wuS_1, wuS_2, wuA_1, wuA_21, wuA_22, nI_m1, m1_nI, nIlt_m1, m1lt_nI, Nat.reduceEqDiff, Nat.reduceAdd, Nat.reduceMul, Nat.reduceSub, Nat.reduceLT, Nat.reduceLeDiff, reduceIte, if_true, if_false, Bool.false_eq_true, Nat.add_zero, Nat.zero_add, ne_eq, not_false_eq_true, not_true_eq_false, Nat.not_lt_zero, Nat.add_left_cancel_iff, Nat.add_right_cancel_iff, eq_self, upd_s, pk_sub, nI_pm, Nat.add_sub_cancel, List.length_cons, List.length_nil, Nat.add_eq_zero_iff, Nat.succ_ne_zero, and_false, false_and, l14, l18, l21, l23, l24, l26, l28, l29, l34, l35, l36, l41, l42, l43, l45, l47, l48, l49, l50, l51, l52, l57, l58, l59, l62, l63, l64, l96, l97, l98, l101, l102, l103, l104, l105, l106, l107, l108, l109, l110, l111, l112, l113, l114, l115, l116, l117, l118, l119, l121, l122, l127, l255, l700, l1320, l1000000, r1, xPutR_s, xCpy_n, wuR_1, wuR_21]
  refine wp_B (wp_B x_fill (Q := fun w' => (∀ c, c ≠ 32 → c ≠ 33 → c ≠ 34 → w'.2.1 c = w.2.1 c) ∧ w'.2.2.2.1 = w.2.2.2.1) ?_) (fun a ha => wp_some ha)
  rintro w2 ⟨F, h34⟩
  refine wp_some ⟨fun c h1 h2 h3 => ?_, ?_⟩
  · simp (disch := omega) only [xB_s, xB2_s, xGet_s, xPut_s, xAld_s, xAst_s, xIf_t, xBool_s, l0, l1, l2, l3, l4, l5, l6, l7, l8, l9, l10, l11, l12, l13, l15, l16, l17, l19, l20, l25, l27, l30, l31, l32, l33, l39, l40, l60, l61, l99, l100, l120, l256, l999, l1999, l99999, lm, nI_add, pk_mul, nI_leI, nI_ltI, nI_eq, wuS_1, wuS_2, wuA_1, wuA_21, wuA_22, nI_m1, m1_nI, nIlt_m1, m1lt_nI, Nat.reduceEqDiff, Nat.reduceAdd, Nat.reduceMul, Nat.reduceSub, Nat.reduceLT, Nat.reduceLeDiff, reduceIte, if_true, if_false, Bool.false_eq_true, Nat.add_zero, Nat.zero_add, ne_eq, not_false_eq_true, not_true_eq_false, Nat.not_lt_zero, Nat.add_left_cancel_iff, Nat.add_right_cancel_iff, eq_self, upd_s, pk_sub, nI_pm, Nat.add_sub_cancel, List.length_cons, List.length_nil, Nat.add_eq_zero_iff, Nat.succ_ne_zero, and_false, false_and, l14, l18, l21, l23, l24, l26, l28, l29, l34, l35, l36, l41, l42, l43, l45, l47, l48, l49, l50, l51, l52, l57, l58, l59, l62, l63, l64, l96, l97, l98, l101, l102, l103, l104, l105, l106, l107, l108, l109, l110, l111, l112, l113, l114, l115, l116, l117, l118, l119, l121, l122, l127, l255, l700, l1320, l1000000]
    rw [F.2.1 c (by simp; exact h3), wuA_21, if_neg h2, wuA_21, if_neg h1]; rfl
  · simp (disch := omega) only [xB_s, xB2_s, xGet_s, xPut_s, xAld_s, xAst_s, xIf_t, xBool_s, l0, l1, l2, l3, l4, l5, l6, l7, l8, l9, l10, l11, l12, l13, l15, l16, l17, l19, l20, l25, l27, l30, l31, l32, l33, l39, l40, l60, l61, l99, l100, l120, l256, l999, l1999, l99999, lm, nI_add, pk_mul, nI_leI, nI_ltI, nI_eq, wuS_1, wuS_2, wuA_1, wuA_21, wuA_22, nI_m1, m1_nI, nIlt_m1, m1lt_nI, Nat.reduceEqDiff, Nat.reduceAdd, Nat.reduceMul, Nat.reduceSub, Nat.reduceLT, Nat.reduceLeDiff, reduceIte, if_true, if_false, Bool.false_eq_true, Nat.add_zero, Nat.zero_add, ne_eq, not_false_eq_true, not_true_eq_false, Nat.not_lt_zero, Nat.add_left_cancel_iff, Nat.add_right_cancel_iff, eq_self, upd_s, pk_sub, nI_pm, Nat.add_sub_cancel, List.length_cons, List.length_nil, Nat.add_eq_zero_iff, Nat.succ_ne_zero, and_false, false_and, l14, l18, l21, l23, l24, l26, l28, l29, l34, l35, l36, l41, l42, l43, l45, l47, l48, l49, l50, l51, l52, l57, l58, l59, l62, l63, l64, l96, l97, l98, l101, l102, l103, l104, l105, l106, l107, l108, l109, l110, l111, l112, l113, l114, l115, l116, l117, l118, l119, l121, l122, l127, l255, l700, l1320, l1000000]; rw [F.2.2]; rfl
def yGm (y : Yw) (p v : Nat) : Yw := yHst y p (min 60 (yH y p + v))
theorem yGm_ok {t : Tn} {y : Yw} {p v : Nat} (h : yOk t y) : yOk t (yGm y p v) := yHst_ok h (Nat.min_le_left _ _)
theorem yGm_0 {t : Tn} {y : Yw} {p : Nat} (h : yOk t y) : yGm y p 0 = y := by
  have h1 := h.2.2.1 p
  unfold yGm yHst
  rw [Nat.add_zero, Nat.min_eq_right h1, fu_id]
def yG (y : Yw) (p o x z : Nat) : Yw := yGm (yGm y p (9 * x)) o (9 * z)
theorem yG_ok {t : Tn} {y : Yw} {p o x z : Nat} (h : yOk t y) : yOk t (yG y p o x z) := yGm_ok (yGm_ok h)
theorem yG_sw {y : Yw} {p o x z : Nat} (h : p ≠ o) : yG y p o x z = yG y o p z x := by
  unfold yG yGm yHst
  have e1 : fu (yH y) p (min 60 (yH y p + 9 * x)) o = yH y o := by rw [fu_s, if_neg (fun e => h e.symm)]
  have e2 : fu (yH y) o (min 60 (yH y o + 9 * z)) p = yH y p := by rw [fu_s, if_neg h]
  show (y.1, fu (fu (yH y) p (min 60 (yH y p + 9 * x))) o (min 60 (fu (yH y) p (min 60 (yH y p + 9 * x)) o + 9 * z)), yL y, yU y, yE y) = (y.1, fu (fu (yH y) o (min 60 (yH y o + 9 * z))) p (min 60 (fu (yH y) o (min 60 (yH y o + 9 * z)) p + 9 * x)), yL y, yU y, yE y)
  rw [e1, e2]
  congr 2
  funext i
  simp only [fu_s]
  by_cases i1 : i = o
  · rw [if_pos i1, if_neg (fun e => h (e.symm.trans i1)), if_pos i1]
  · rw [if_neg i1, if_neg i1]
def gSum (t : Tn) (y : Yw) (p : Nat) (s : Int32) : Nat → Int32
  | 0 => s
  | k + 1 => gSum t y p s k + nI (1 - bN (whoS t (exC 0) (daysY t (exC 0) y k) (tD t)) p)
theorem yD_G {y : Yw} {p o x z : Nat} : yD (yG y p o x z) = yD y := rfl
theorem m_hasten {γ : Type} {w : wS} {y : Yw} {p : Nat} {k : wS → Option γ} {Q : γ → Prop} (hp : p < 8) (hy : ∀ p, yH y p ≤ 60) (Y : YM y (w.2.1 16) 33) (h : ∀ w', mF 33 w w' → YM (yGm y p 9) (w'.2.1 16) 33 → wpO (k w') Q) : wpO (xB (xAld w 16 66 (nI (36 + p))) fun v => xB (L_X10_lesser (nI 60) (v + nI 9)) fun v7 => xB (xAst w 16 66 (nI (36 + p)) v7) k) Q := by
  have e := Y.2.2.2.1 p hp
  have h1 := hy p
  simp (disch := omega) only [xB_s, xB2_s, xGet_s, xPut_s, xAld_s, xAst_s, xIf_t, xBool_s, l0, l1, l2, l3, l4, l5, l6, l7, l8, l9, l10, l11, l12, l13, l15, l16, l17, l19, l20, l25, l27, l30, l31, l32, l33, l39, l40, l60, l61, l99, l100, l120, l256, l999, l1999, l99999, lm, nI_add, pk_mul, nI_leI, nI_ltI, nI_eq, wuS_1, wuS_2, wuA_1, wuA_21, wuA_22, nI_m1, m1_nI, nIlt_m1, m1lt_nI, Nat.reduceEqDiff, Nat.reduceAdd, Nat.reduceMul, Nat.reduceSub, Nat.reduceLT, Nat.reduceLeDiff, reduceIte, if_true, if_false, Bool.false_eq_true, Nat.add_zero, Nat.zero_add, ne_eq, not_false_eq_true, not_true_eq_false, Nat.not_lt_zero, Nat.add_left_cancel_iff, Nat.add_right_cancel_iff, eq_self, upd_s, pk_sub, nI_pm, Nat.add_sub_cancel, List.length_cons, List.length_nil, Nat.add_eq_zero_iff, Nat.succ_ne_zero, and_false, false_and, l14, l18, l21, l23, l24, l26, l28, l29, l34, l35, l36, l41, l42, l43, l45, l47, l48, l49, l50, l51, l52, l57, l58, l59, l62, l63, l64, l96, l97, l98, l101, l102, l103, l104, l105, l106, l107, l108, l109, l110, l111, l112, l113, l114, l115, l116, l117, l118, l119, l121, l122, l127, l255, l700, l1320, l1000000, e]
  rw [lesser_n (by omega) (by omega)]
  simp (disch := omega) only [xB_s, xB2_s, xGet_s, xPut_s, xAld_s, xAst_s, xIf_t, xBool_s, l0, l1, l2, l3, l4, l5, l6, l7, l8, l9, l10, l11, l12, l13, l15, l16, l17, l19, l20, l25, l27, l30, l31, l32, l33, l39, l40, l60, l61, l99, l100, l120, l256, l999, l1999, l99999, lm, nI_add, pk_mul, nI_leI, nI_ltI, nI_eq, wuS_1, wuS_2, wuA_1, wuA_21, wuA_22, nI_m1, m1_nI, nIlt_m1, m1lt_nI, Nat.reduceEqDiff, Nat.reduceAdd, Nat.reduceMul, Nat.reduceSub, Nat.reduceLT, Nat.reduceLeDiff, reduceIte, if_true, if_false, Bool.false_eq_true, Nat.add_zero, Nat.zero_add, ne_eq, not_false_eq_true, not_true_eq_false, Nat.not_lt_zero, Nat.add_left_cancel_iff, Nat.add_right_cancel_iff, eq_self, upd_s, pk_sub, nI_pm, Nat.add_sub_cancel, List.length_cons, List.length_nil, Nat.add_eq_zero_iff, Nat.succ_ne_zero, and_false, false_and, l14, l18, l21, l23, l24, l26, l28, l29, l34, l35, l36, l41, l42, l43, l45, l47, l48, l49, l50, l51, l52, l57, l58, l59, l62, l63, l64, l96, l97, l98, l101, l102, l103, l104, l105, l106, l107, l108, l109, l110, l111, l112, l113, l114, l115, l116, l117, l118, l119, l121, l122, l127, l255, l700, l1320, l1000000]
  refine h _ ⟨Fr.refl.A (by decide), fun k hk => ?_⟩ ?_
  · simp (disch := omega) only [xB_s, xB2_s, xGet_s, xPut_s, xAld_s, xAst_s, xIf_t, xBool_s, l0, l1, l2, l3, l4, l5, l6, l7, l8, l9, l10, l11, l12, l13, l15, l16, l17, l19, l20, l25, l27, l30, l31, l32, l33, l39, l40, l60, l61, l99, l100, l120, l256, l999, l1999, l99999, lm, nI_add, pk_mul, nI_leI, nI_ltI, nI_eq, wuS_1, wuS_2, wuA_1, wuA_21, wuA_22, nI_m1, m1_nI, nIlt_m1, m1lt_nI, Nat.reduceEqDiff, Nat.reduceAdd, Nat.reduceMul, Nat.reduceSub, Nat.reduceLT, Nat.reduceLeDiff, reduceIte, if_true, if_false, Bool.false_eq_true, Nat.add_zero, Nat.zero_add, ne_eq, not_false_eq_true, not_true_eq_false, Nat.not_lt_zero, Nat.add_left_cancel_iff, Nat.add_right_cancel_iff, eq_self, upd_s, pk_sub, nI_pm, Nat.add_sub_cancel, List.length_cons, List.length_nil, Nat.add_eq_zero_iff, Nat.succ_ne_zero, and_false, false_and, l14, l18, l21, l23, l24, l26, l28, l29, l34, l35, l36, l41, l42, l43, l45, l47, l48, l49, l50, l51, l52, l57, l58, l59, l62, l63, l64, l96, l97, l98, l101, l102, l103, l104, l105, l106, l107, l108, l109, l110, l111, l112, l113, l114, l115, l116, l117, l118, l119, l121, l122, l127, l255, l700, l1320, l1000000]; rw [if_neg (by omega)]
  · simp (disch := omega) only [xB_s, xB2_s, xGet_s, xPut_s, xAld_s, xAst_s, xIf_t, xBool_s, l0, l1, l2, l3, l4, l5, l6, l7, l8, l9, l10, l11, l12, l13, l15, l16, l17, l19, l20, l25, l27, l30, l31, l32, l33, l39, l40, l60, l61, l99, l100, l120, l256, l999, l1999, l99999, lm, nI_add, pk_mul, nI_leI, nI_ltI, nI_eq, wuS_1, wuS_2, wuA_1, wuA_21, wuA_22, nI_m1, m1_nI, nIlt_m1, m1lt_nI, Nat.reduceEqDiff, Nat.reduceAdd, Nat.reduceMul, Nat.reduceSub, Nat.reduceLT, Nat.reduceLeDiff, reduceIte, if_true, if_false, Bool.false_eq_true, Nat.add_zero, Nat.zero_add, ne_eq, not_false_eq_true, not_true_eq_false, Nat.not_lt_zero, Nat.add_left_cancel_iff, Nat.add_right_cancel_iff, eq_self, upd_s, pk_sub, nI_pm, Nat.add_sub_cancel, List.length_cons, List.length_nil, Nat.add_eq_zero_iff, Nat.succ_ne_zero, and_false, false_and, l14, l18, l21, l23, l24, l26, l28, l29, l34, l35, l36, l41, l42, l43, l45, l47, l48, l49, l50, l51, l52, l57, l58, l59, l62, l63, l64, l96, l97, l98, l101, l102, l103, l104, l105, l106, l107, l108, l109, l110, l111, l112, l113, l114, l115, l116, l117, l118, l119, l121, l122, l127, l255, l700, l1320, l1000000]; exact Y.haste hp
theorem mF.TX {b : Nat} {t : Tn} {ex : Ex} {w w' : wS} (h : mF b w w') (T : TM t w ∧ EM ex w) : TM t w' ∧ EM ex w' := ⟨h.T T.1, h.X T.2⟩
theorem m_gains {t : Tn} {y : Yw} {w : wS} {p o x z : Nat} (T : TM t w ∧ EM (exC 0) w) (ho : tOk t) (hy : yOk t y) (hD : yD y ≤ 999) (Y : YM y (w.2.1 16) 0) (hp : p < 8) (hq : o < 8) (hx : x ≤ 1) (hz : z ≤ 1) : wpO (L_X10_gains (nI p) (nI o) (nI x) (nI z) w) (fun r => mF 33 w r.2 ∧ r.1 = gSum t (yG y p o x z) p (nI 0 - nI x) 8) := by
  unfold L_X10_gains
  refine wp_B (m_tries Y) ?_
  rintro w1 ⟨f1, _, _, f4⟩
  have fin : ∀ (w2 : wS), mF 33 w w2 → YM (yG y p o x z) (w2.2.1 16) 33 → wpO (J_X10_gains_67 (nI p) (nI x) w2) (fun r => mF 33 w r.2 ∧ r.1 = gSum t (yG y p o x z) p (nI 0 - nI x) 8) := by
    intro w2 h2 Y2
    have hok := yG_ok (p := p) (o := o) (x := x) (z := z) hy
    have hDD := yD_G (y := y) (p := p) (o := o) (x := x) (z := z)
    generalize yG y p o x z = yy at *
    unfold J_X10_gains_67 P_X10_gains_75
    simp only [xB_s, xB2_s, xIf_t, xBT_n, xBT_e, l0, l1, l2, l3, l4, l5, l6, l7, l8, l9, l10, l11, l12, l13, l15, l16, l17, l19, l20, l25, l27, l30, l31, l32, l33, l39, l40, l60, l61, l99, l100, l120, l256, l999, l1999, l99999, lm, l14, l18, l21, l23, l24, l26, l28, l29, l34, l35, l36, l41, l42, l43, l45, l47, l48, l49, l50, l51, l52, l57, l58, l59, l62, l63, l64, l96, l97, l98, l101, l102, l103, l104, l105, l106, l107, l108, l109, l110, l111, l112, l113, l114, l115, l116, l117, l118, l119, l121, l122, l127, l255, l700, l1320, l1000000]
    generalize nI 0 - nI x = s0
    refine wp_for 8 (fun i σ => ∃ w3, σ = (nI p, gSum t yy p s0 i, nI i, w3) ∧ mF 33 w w3 ∧ YM (daysY t (exC 0) yy i) (w3.2.1 16) 33) ?_ (Nat.zero_le _) (by omega) ⟨w2, rfl, h2, Y2⟩
    rintro i _ kk hi ⟨w3, rfl, h3, Y3⟩ hkk
    show wpO (B_X10_gains_75 (fun x1 x5 x6 w => kk (x1, x5, x6, w)) _ (nI p) _ (nI i) w3) _
    unfold B_X10_gains_75
    by_cases hlt : i < 8
    · simp (disch := omega) only [xB_s, xB2_s, xGet_s, xPut_s, xAld_s, xAst_s, xIf_t, xBool_s, l0, l1, l2, l3, l4, l5, l6, l7, l8, l9, l10, l11, l12, l13, l15, l16, l17, l19, l20, l25, l27, l30, l31, l32, l33, l39, l40, l60, l61, l99, l100, l120, l256, l999, l1999, l99999, lm, nI_add, pk_mul, nI_leI, nI_ltI, nI_eq, wuS_1, wuS_2, wuA_1, wuA_21, wuA_22, nI_m1, m1_nI, nIlt_m1, m1lt_nI, Nat.reduceEqDiff, Nat.reduceAdd, Nat.reduceMul, Nat.reduceSub, Nat.reduceLT, Nat.reduceLeDiff, reduceIte, if_true, if_false, Bool.false_eq_true, Nat.add_zero, Nat.zero_add, ne_eq, not_false_eq_true, not_true_eq_false, Nat.not_lt_zero, Nat.add_left_cancel_iff, Nat.add_right_cancel_iff, eq_self, upd_s, pk_sub, nI_pm, Nat.add_sub_cancel, List.length_cons, List.length_nil, Nat.add_eq_zero_iff, Nat.succ_ne_zero, and_false, false_and, l14, l18, l21, l23, l24, l26, l28, l29, l34, l35, l36, l41, l42, l43, l45, l47, l48, l49, l50, l51, l52, l57, l58, l59, l62, l63, l64, l96, l97, l98, l101, l102, l103, l104, l105, l106, l107, l108, l109, l110, l111, l112, l113, l114, l115, l116, l117, l118, l119, l121, l122, l127, l255, l700, l1320, l1000000, show (8 ≤ i) = False from eq_false (by omega)]
      have tx := h3.TX T
      refine wp_B (m_dayGoes tx.1 tx.2 ho (daysY_ok hok i (by omega)) (by omega) Y3) ?_
      rintro w4 ⟨M4, Y4, O4⟩
      have hb := bN_le (whoS t (exC 0) (daysY t (exC 0) yy i) (tD t)) p
      simp (disch := omega) only [xB_s, xB2_s, xGet_s, xPut_s, xAld_s, xAst_s, xIf_t, xBool_s, l0, l1, l2, l3, l4, l5, l6, l7, l8, l9, l10, l11, l12, l13, l15, l16, l17, l19, l20, l25, l27, l30, l31, l32, l33, l39, l40, l60, l61, l99, l100, l120, l256, l999, l1999, l99999, lm, nI_add, pk_mul, nI_leI, nI_ltI, nI_eq, wuS_1, wuS_2, wuA_1, wuA_21, wuA_22, nI_m1, m1_nI, nIlt_m1, m1lt_nI, Nat.reduceEqDiff, Nat.reduceAdd, Nat.reduceMul, Nat.reduceSub, Nat.reduceLT, Nat.reduceLeDiff, reduceIte, if_true, if_false, Bool.false_eq_true, Nat.add_zero, Nat.zero_add, ne_eq, not_false_eq_true, not_true_eq_false, Nat.not_lt_zero, Nat.add_left_cancel_iff, Nat.add_right_cancel_iff, eq_self, upd_s, pk_sub, nI_pm, Nat.add_sub_cancel, List.length_cons, List.length_nil, Nat.add_eq_zero_iff, Nat.succ_ne_zero, and_false, false_and, l14, l18, l21, l23, l24, l26, l28, l29, l34, l35, l36, l41, l42, l43, l45, l47, l48, l49, l50, l51, l52, l57, l58, l59, l62, l63, l64, l96, l97, l98, l101, l102, l103, l104, l105, l106, l107, l108, l109, l110, l111, l112, l113, l114, l115, l116, l117, l118, l119, l121, l122, l127, l255, l700, l1320, l1000000, O4.1, bit_s]
      exact hkk hlt _ ⟨w4, rfl, h3.trans M4, Y4⟩
    · obtain rfl : i = 8 := by omega
      simp (disch := omega) only [xB_s, xB2_s, xGet_s, xPut_s, xAld_s, xAst_s, xIf_t, xBool_s, l0, l1, l2, l3, l4, l5, l6, l7, l8, l9, l10, l11, l12, l13, l15, l16, l17, l19, l20, l25, l27, l30, l31, l32, l33, l39, l40, l60, l61, l99, l100, l120, l256, l999, l1999, l99999, lm, nI_add, pk_mul, nI_leI, nI_ltI, nI_eq, wuS_1, wuS_2, wuA_1, wuA_21, wuA_22, nI_m1, m1_nI, nIlt_m1, m1lt_nI, Nat.reduceEqDiff, Nat.reduceAdd, Nat.reduceMul, Nat.reduceSub, Nat.reduceLT, Nat.reduceLeDiff, reduceIte, if_true, if_false, Bool.false_eq_true, Nat.add_zero, Nat.zero_add, ne_eq, not_false_eq_true, not_true_eq_false, Nat.not_lt_zero, Nat.add_left_cancel_iff, Nat.add_right_cancel_iff, eq_self, upd_s, pk_sub, nI_pm, Nat.add_sub_cancel, List.length_cons, List.length_nil, Nat.add_eq_zero_iff, Nat.succ_ne_zero, and_false, false_and, l14, l18, l21, l23, l24, l26, l28, l29, l34, l35, l36, l41, l42, l43, l45, l47, l48, l49, l50, l51, l52, l57, l58, l59, l62, l63, l64, l96, l97, l98, l101, l102, l103, l104, l105, l106, l107, l108, l109, l110, l111, l112, l113, l114, l115, l116, l117, l118, l119, l121, l122, l127, l255, l700, l1320, l1000000]
      exact wp_some ⟨h3, rfl⟩
  have mid : ∀ (w2 : wS), mF 33 w w2 → YM (yGm y p (9 * x)) (w2.2.1 16) 33 → wpO (J_X10_gains_35 (nI p) (nI o) (nI x) (nI z) w2) (fun r => mF 33 w r.2 ∧ r.1 = gSum t (yG y p o x z) p (nI 0 - nI x) 8) := by
    intro w2 h2 Y2
    unfold J_X10_gains_35
    by_cases z1 : z = 1
    · subst z1
      simp only [xB_s, xB2_s, xIf_t, xBT_n, xBT_e, l0, l1, l2, l3, l4, l5, l6, l7, l8, l9, l10, l11, l12, l13, l15, l16, l17, l19, l20, l25, l27, l30, l31, l32, l33, l39, l40, l60, l61, l99, l100, l120, l256, l999, l1999, l99999, lm, l14, l18, l21, l23, l24, l26, l28, l29, l34, l35, l36, l41, l42, l43, l45, l47, l48, l49, l50, l51, l52, l57, l58, l59, l62, l63, l64, l96, l97, l98, l101, l102, l103, l104, l105, l106, l107, l108, l109, l110, l111, l112, l113, l114, l115, l116, l117, l118, l119, l121, l122, l127, l255, l700, l1320, l1000000, nI_add]
      rw [if_pos trivial]
      refine m_hasten hq (yGm_ok hy).2.2.1 Y2 ?_
      intro w3 m3 Y3
      exact fin w3 (h2.trans m3) Y3
    · obtain rfl : z = 0 := by omega
      simp only [xB_s, xB2_s, xIf_t, xBT_n, xBT_e, l0, l1, l2, l3, l4, l5, l6, l7, l8, l9, l10, l11, l12, l13, l15, l16, l17, l19, l20, l25, l27, l30, l31, l32, l33, l39, l40, l60, l61, l99, l100, l120, l256, l999, l1999, l99999, lm, l14, l18, l21, l23, l24, l26, l28, l29, l34, l35, l36, l41, l42, l43, l45, l47, l48, l49, l50, l51, l52, l57, l58, l59, l62, l63, l64, l96, l97, l98, l101, l102, l103, l104, l105, l106, l107, l108, l109, l110, l111, l112, l113, l114, l115, l116, l117, l118, l119, l121, l122, l127, l255, l700, l1320, l1000000]
      rw [if_neg (by decide)]
      refine fin w2 h2 ?_
      unfold yG
      rw [Nat.mul_zero, yGm_0 (yGm_ok hy)]; exact Y2
  by_cases x1 : x = 1
  · subst x1
    simp only [xB_s, xB2_s, xIf_t, xBT_n, xBT_e, l0, l1, l2, l3, l4, l5, l6, l7, l8, l9, l10, l11, l12, l13, l15, l16, l17, l19, l20, l25, l27, l30, l31, l32, l33, l39, l40, l60, l61, l99, l100, l120, l256, l999, l1999, l99999, lm, l14, l18, l21, l23, l24, l26, l28, l29, l34, l35, l36, l41, l42, l43, l45, l47, l48, l49, l50, l51, l52, l57, l58, l59, l62, l63, l64, l96, l97, l98, l101, l102, l103, l104, l105, l106, l107, l108, l109, l110, l111, l112, l113, l114, l115, l116, l117, l118, l119, l121, l122, l127, l255, l700, l1320, l1000000, nI_add]
    rw [if_pos trivial]
    refine m_hasten hp hy.2.2.1 f4 ?_
    intro w3 m3 Y3
    exact mid w3 (f1.trans m3) Y3
  · obtain rfl : x = 0 := by omega
    simp only [xB_s, xB2_s, xIf_t, xBT_n, xBT_e, l0, l1, l2, l3, l4, l5, l6, l7, l8, l9, l10, l11, l12, l13, l15, l16, l17, l19, l20, l25, l27, l30, l31, l32, l33, l39, l40, l60, l61, l99, l100, l120, l256, l999, l1999, l99999, lm, l14, l18, l21, l23, l24, l26, l28, l29, l34, l35, l36, l41, l42, l43, l45, l47, l48, l49, l50, l51, l52, l57, l58, l59, l62, l63, l64, l96, l97, l98, l101, l102, l103, l104, l105, l106, l107, l108, l109, l110, l111, l112, l113, l114, l115, l116, l117, l118, l119, l121, l122, l127, l255, l700, l1320, l1000000]
    rw [if_neg (by decide)]
    refine mid w1 f1 ?_
    rw [Nat.mul_zero, yGm_0 hy]; exact f4
theorem cp_h : ∀ c, c < 4 → nI c >>> (nI 1 &&& nI 31) = nI (c / 2) := by decide +kernel
theorem cp_l : ∀ c, c < 4 → nI c &&& nI 1 = nI (c % 2) := by decide +kernel
theorem cp_2 : ∀ c, c < 4 → nI c ^^^ nI 2 = nI (2 * (1 - c / 2) + c % 2) := by decide +kernel
theorem cp_1 : ∀ c, c < 4 → nI c ^^^ nI 1 = nI (2 * (c / 2) + (1 - c % 2)) := by decide +kernel
theorem x_play {t : Tn} {y : Yw} {o : wO} {wx : wS} {p q c : Nat} (hT : XT t o wx) (ho : tOk t) (hy : yOk t y) (hD : yD y ≤ 999) (hY : XY y (wx.2.1 14)) (hp : p < 8) (hq : q < 8) (hc : c < 4) : wpO (L_X9_play o (nI p) (nI q) (nI c) wx) (fun wx' => QX wx wx' ∧ wx'.2.1 51 = upd (upd (wx.2.1 51) (2 * c) (gSum t (yG y p q (c / 2) (c % 2)) p (-nI (c / 2)) 8)) (2 * c + 1) (gSum t (yG y p q (c / 2) (c % 2)) q (-nI (c % 2)) 8)) := by
  unfold L_X9_play
  refine wp_B (wp_and (x_fromNow hT ho hY) (x_fromNow2 hT)) ?_
  rintro w1 ⟨⟨a1, a2, a3, a4, a5, a6⟩, a7, _⟩
  have g51 : w1.2.1 51 = wx.2.1 51 := a7 51 (by decide) (by decide) (by decide)
  unfold L_X1_hasten L_X5_hasteOf_x31 L_X5_setHaste_x31
  have h1 := hy.2.2.1 p
  have e1 : w1.2.1 32 (1 + p) = nI (yH y p) := a5.2.1 p hp
  have hx : c / 2 ≤ 1 := by omega
  have hz : c % 2 ≤ 1 := by omega
  generalize hxx : c / 2 = x at *
  generalize hzz : c % 2 = z at *
  have m1 := xMin_n (a := 60) (b := yH y p + 9 * x) (by omega) (by omega)
  have ch := cp_h c hc
  have cl := cp_l c hc
  rw [hxx] at ch
  rw [hzz] at cl
  simp (disch := omega) only [xB_s, xB2_s, xGet_s, xPut_s, xAld_s, xAst_s, xIf_t, xBool_s, l0, l1, l2, l3, l4, l5, l6, l7, l8, l9, l10, l11, l12, l13, l15, l16, l17, l19, l20, l25, l27, l30, l31, l32, l33, l39, l40, l60, l61, l99, l100, l120, l256, l999, l1999, l99999, lm, nI_add, pk_mul, nI_leI, nI_ltI, nI_eq, wuS_1, wuS_2, wuA_1, wuA_21, wuA_22, nI_m1, m1_nI, nIlt_m1, m1lt_nI, Nat.reduceEqDiff, Nat.reduceAdd, Nat.reduceMul, Nat.reduceSub, Nat.reduceLT, Nat.reduceLeDiff, reduceIte, if_true, if_false, Bool.false_eq_true, Nat.add_zero, Nat.zero_add, ne_eq, not_false_eq_true, not_true_eq_false, Nat.not_lt_zero, Nat.add_left_cancel_iff, Nat.add_right_cancel_iff, eq_self, upd_s, pk_sub, nI_pm, Nat.add_sub_cancel, List.length_cons, List.length_nil, Nat.add_eq_zero_iff, Nat.succ_ne_zero, and_false, false_and, l14, l18, l21, l23, l24, l26, l28, l29, l34, l35, l36, l41, l42, l43, l45, l47, l48, l49, l50, l51, l52, l57, l58, l59, l62, l63, l64, l96, l97, l98, l101, l102, l103, l104, l105, l106, l107, l108, l109, l110, l111, l112, l113, l114, l115, l116, l117, l118, l119, l121, l122, l127, l255, l700, l1320, l1000000, ch, cl, e1, m1]
  have Y2 : XY (yGm y p (9 * x)) (upd (w1.2.1 32) (1 + p) (nI (min 60 (yH y p + 9 * x)))) := a5.haste hp
  have e2 : (if 1 + q = 1 + p then nI (min 60 (yH y p + 9 * x)) else w1.2.1 32 (1 + q)) = nI (yH (yGm y p (9 * x)) q) := by
    have := Y2.2.1 q hq
    rw [upd_s] at this; exact this
  have h2 := (yGm_ok (t := t) (p := p) (v := 9 * x) hy).2.2.1 q
  have m2 := xMin_n (a := 60) (b := yH (yGm y p (9 * x)) q + 9 * z) (by omega) (by omega)
  have e2' : (if q = p then nI (min 60 (yH y p + 9 * x)) else w1.2.1 32 (1 + q)) = nI (yH (yGm y p (9 * x)) q) := by
    rw [← e2]
    by_cases e : q = p
    · rw [if_pos e, if_pos (by omega)]
    · rw [if_neg e, if_neg (by omega)]
  rw [e2']
  simp (disch := omega) only [xB_s, xB2_s, xGet_s, xPut_s, xAld_s, xAst_s, xIf_t, xBool_s, l0, l1, l2, l3, l4, l5, l6, l7, l8, l9, l10, l11, l12, l13, l15, l16, l17, l19, l20, l25, l27, l30, l31, l32, l33, l39, l40, l60, l61, l99, l100, l120, l256, l999, l1999, l99999, lm, nI_add, pk_mul, nI_leI, nI_ltI, nI_eq, wuS_1, wuS_2, wuA_1, wuA_21, wuA_22, nI_m1, m1_nI, nIlt_m1, m1lt_nI, Nat.reduceEqDiff, Nat.reduceAdd, Nat.reduceMul, Nat.reduceSub, Nat.reduceLT, Nat.reduceLeDiff, reduceIte, if_true, if_false, Bool.false_eq_true, Nat.add_zero, Nat.zero_add, ne_eq, not_false_eq_true, not_true_eq_false, Nat.not_lt_zero, Nat.add_left_cancel_iff, Nat.add_right_cancel_iff, eq_self, upd_s, pk_sub, nI_pm, Nat.add_sub_cancel, List.length_cons, List.length_nil, Nat.add_eq_zero_iff, Nat.succ_ne_zero, and_false, false_and, l14, l18, l21, l23, l24, l26, l28, l29, l34, l35, l36, l41, l42, l43, l45, l47, l48, l49, l50, l51, l52, l57, l58, l59, l62, l63, l64, l96, l97, l98, l101, l102, l103, l104, l105, l106, l107, l108, l109, l110, l111, l112, l113, l114, l115, l116, l117, l118, l119, l121, l122, l127, l255, l700, l1320, l1000000, m2]
  have Y3 : XY (yG y p q x z) ((wuA (wuA w1 32 (upd (w1.2.1 32) (1 + p) (nI (min 60 (yH y p + 9 * x))))) 32 (upd (upd (w1.2.1 32) (1 + p) (nI (min 60 (yH y p + 9 * x)))) (1 + q) (nI (min 60 (yH (yGm y p (9 * x)) q + 9 * z))))).2.1 32) := by
    simp (disch := omega) only [xB_s, xB2_s, xGet_s, xPut_s, xAld_s, xAst_s, xIf_t, xBool_s, l0, l1, l2, l3, l4, l5, l6, l7, l8, l9, l10, l11, l12, l13, l15, l16, l17, l19, l20, l25, l27, l30, l31, l32, l33, l39, l40, l60, l61, l99, l100, l120, l256, l999, l1999, l99999, lm, nI_add, pk_mul, nI_leI, nI_ltI, nI_eq, wuS_1, wuS_2, wuA_1, wuA_21, wuA_22, nI_m1, m1_nI, nIlt_m1, m1lt_nI, Nat.reduceEqDiff, Nat.reduceAdd, Nat.reduceMul, Nat.reduceSub, Nat.reduceLT, Nat.reduceLeDiff, reduceIte, if_true, if_false, Bool.false_eq_true, Nat.add_zero, Nat.zero_add, ne_eq, not_false_eq_true, not_true_eq_false, Nat.not_lt_zero, Nat.add_left_cancel_iff, Nat.add_right_cancel_iff, eq_self, upd_s, pk_sub, nI_pm, Nat.add_sub_cancel, List.length_cons, List.length_nil, Nat.add_eq_zero_iff, Nat.succ_ne_zero, and_false, false_and, l14, l18, l21, l23, l24, l26, l28, l29, l34, l35, l36, l41, l42, l43, l45, l47, l48, l49, l50, l51, l52, l57, l58, l59, l62, l63, l64, l96, l97, l98, l101, l102, l103, l104, l105, l106, l107, l108, l109, l110, l111, l112, l113, l114, l115, l116, l117, l118, l119, l121, l122, l127, l255, l700, l1320, l1000000]; exact Y2.haste hq
  have F3 : Fr xKs xAs w1 (wuA (wuA w1 32 (upd (w1.2.1 32) (1 + p) (nI (min 60 (yH y p + 9 * x))))) 32 (upd (upd (w1.2.1 32) (1 + p) (nI (min 60 (yH y p + 9 * x)))) (1 + q) (nI (min 60 (yH (yGm y p (9 * x)) q + 9 * z))))) := (Fr.refl.A (by decide)).A (by decide)
  have g8 : (wuA (wuA w1 32 (upd (w1.2.1 32) (1 + p) (nI (min 60 (yH y p + 9 * x))))) 32 (upd (upd (w1.2.1 32) (1 + p) (nI (min 60 (yH y p + 9 * x)))) (1 + q) (nI (min 60 (yH (yGm y p (9 * x)) q + 9 * z))))).1 3008 = nI 0 := a3
  generalize wuA (wuA w1 32 (upd (w1.2.1 32) (1 + p) (nI (min 60 (yH y p + 9 * x))))) 32 (upd (upd (w1.2.1 32) (1 + p) (nI (min 60 (yH y p + 9 * x)))) (1 + q) (nI (min 60 (yH (yGm y p (9 * x)) q + 9 * z)))) = w3 at *
  have hok := yG_ok (p := p) (o := q) (x := x) (z := z) hy
  have hDD := yD_G (y := y) (p := p) (o := q) (x := x) (z := z)
  generalize yG y p q x z = yy at *
  generalize -nI x = s1 at *
  generalize -nI z = s2 at *
  unfold P_X9_play_51
  refine wp_for 8 (fun i σ => ∃ w4, σ = (nI p, nI q, nI c, gSum t yy p s1 i, gSum t yy q s2 i, nI i, w4) ∧ Fr xKs xAs w1 w4 ∧ w4.1 3008 = nI 0 ∧ XY (daysY t (exC 0) yy i) (w4.2.1 32)) ?_ (Nat.zero_le _) (by omega) ⟨w3, rfl, F3, g8, Y3⟩
  rintro i _ kk hi ⟨w4, rfl, F4, k4, Y4⟩ hkk
  show wpO (B_X9_play_51 o (fun x1 x2 x3 x7 x8 x9 w => kk (x1, x2, x3, x7, x8, x9, w)) _ (nI p) (nI q) (nI c) _ _ (nI i) w4) _
  unfold B_X9_play_51 J_X9_play_79 J_X9_play_98
  by_cases hlt : i < 8
  · simp (disch := omega) only [xB_s, xB2_s, xGet_s, xPut_s, xAld_s, xAst_s, xIf_t, xBool_s, l0, l1, l2, l3, l4, l5, l6, l7, l8, l9, l10, l11, l12, l13, l15, l16, l17, l19, l20, l25, l27, l30, l31, l32, l33, l39, l40, l60, l61, l99, l100, l120, l256, l999, l1999, l99999, lm, nI_add, pk_mul, nI_leI, nI_ltI, nI_eq, wuS_1, wuS_2, wuA_1, wuA_21, wuA_22, nI_m1, m1_nI, nIlt_m1, m1lt_nI, Nat.reduceEqDiff, Nat.reduceAdd, Nat.reduceMul, Nat.reduceSub, Nat.reduceLT, Nat.reduceLeDiff, reduceIte, if_true, if_false, Bool.false_eq_true, Nat.add_zero, Nat.zero_add, ne_eq, not_false_eq_true, not_true_eq_false, Nat.not_lt_zero, Nat.add_left_cancel_iff, Nat.add_right_cancel_iff, eq_self, upd_s, pk_sub, nI_pm, Nat.add_sub_cancel, List.length_cons, List.length_nil, Nat.add_eq_zero_iff, Nat.succ_ne_zero, and_false, false_and, l14, l18, l21, l23, l24, l26, l28, l29, l34, l35, l36, l41, l42, l43, l45, l47, l48, l49, l50, l51, l52, l57, l58, l59, l62, l63, l64, l96, l97, l98, l101, l102, l103, l104, l105, l106, l107, l108, l109, l110, l111, l112, l113, l114, l115, l116, l117, l118, l119, l121, l122, l127, l255, l700, l1320, l1000000, show (8 ≤ i) = False from eq_false (by omega)]
    refine wp_B (x_oneDay (a2.fr F4) ho (daysY_ok hok i (by omega)) (by omega) k4 Y4) ?_
    rintro w5 ⟨F5, k5, Y5, O5⟩
    have hb1 := bN_le (whoS t (exC 0) (daysY t (exC 0) yy i) (tD t)) p
    have hb2 := bN_le (whoS t (exC 0) (daysY t (exC 0) yy i) (tD t)) q
    have r1 := x_rangToday (o := o) (p := p) O5.1 (by omega)
    have r2 := x_rangToday (o := o) (p := q) O5.1 (by omega)
    simp (disch := omega) only [xB_s, xB2_s, xGet_s, xPut_s, xAld_s, xAst_s, xIf_t, xBool_s, l0, l1, l2, l3, l4, l5, l6, l7, l8, l9, l10, l11, l12, l13, l15, l16, l17, l19, l20, l25, l27, l30, l31, l32, l33, l39, l40, l60, l61, l99, l100, l120, l256, l999, l1999, l99999, lm, nI_add, pk_mul, nI_leI, nI_ltI, nI_eq, wuS_1, wuS_2, wuA_1, wuA_21, wuA_22, nI_m1, m1_nI, nIlt_m1, m1lt_nI, Nat.reduceEqDiff, Nat.reduceAdd, Nat.reduceMul, Nat.reduceSub, Nat.reduceLT, Nat.reduceLeDiff, reduceIte, if_true, if_false, Bool.false_eq_true, Nat.add_zero, Nat.zero_add, ne_eq, not_false_eq_true, not_true_eq_false, Nat.not_lt_zero, Nat.add_left_cancel_iff, Nat.add_right_cancel_iff, eq_self, upd_s, pk_sub, nI_pm, Nat.add_sub_cancel, List.length_cons, List.length_nil, Nat.add_eq_zero_iff, Nat.succ_ne_zero, and_false, false_and, l14, l18, l21, l23, l24, l26, l28, l29, l34, l35, l36, l41, l42, l43, l45, l47, l48, l49, l50, l51, l52, l57, l58, l59, l62, l63, l64, l96, l97, l98, l101, l102, l103, l104, l105, l106, l107, l108, l109, l110, l111, l112, l113, l114, l115, l116, l117, l118, l119, l121, l122, l127, l255, l700, l1320, l1000000, r1, r2]
    have nx := hkk hlt _ ⟨w5, rfl, F4.trans F5, k5, Y5⟩
    simp only [gSum] at nx
    generalize bN (whoS t (exC 0) (daysY t (exC 0) yy i) (tD t)) p = u1 at *
    generalize bN (whoS t (exC 0) (daysY t (exC 0) yy i) (tD t)) q = u2 at *
    have c1 : u1 = 0 ∨ u1 = 1 := by omega
    have c2 : u2 = 0 ∨ u2 = 1 := by omega
    rcases c1 with rfl | rfl <;> rcases c2 with rfl | rfl <;> simp (disch := omega) only [xB_s, xB2_s, xGet_s, xPut_s, xAld_s, xAst_s, xIf_t, xBool_s, l0, l1, l2, l3, l4, l5, l6, l7, l8, l9, l10, l11, l12, l13, l15, l16, l17, l19, l20, l25, l27, l30, l31, l32, l33, l39, l40, l60, l61, l99, l100, l120, l256, l999, l1999, l99999, lm, nI_add, pk_mul, nI_leI, nI_ltI, nI_eq, wuS_1, wuS_2, wuA_1, wuA_21, wuA_22, nI_m1, m1_nI, nIlt_m1, m1lt_nI, Nat.reduceEqDiff, Nat.reduceAdd, Nat.reduceMul, Nat.reduceSub, Nat.reduceLT, Nat.reduceLeDiff, reduceIte, if_true, if_false, Bool.false_eq_true, Nat.add_zero, Nat.zero_add, ne_eq, not_false_eq_true, not_true_eq_false, Nat.not_lt_zero, Nat.add_left_cancel_iff, Nat.add_right_cancel_iff, eq_self, upd_s, pk_sub, nI_pm, Nat.add_sub_cancel, List.length_cons, List.length_nil, Nat.add_eq_zero_iff, Nat.succ_ne_zero, and_false, false_and, l14, l18, l21, l23, l24, l26, l28, l29, l34, l35, l36, l41, l42, l43, l45, l47, l48, l49, l50, l51, l52, l57, l58, l59, l62, l63, l64, l96, l97, l98, l101, l102, l103, l104, l105, l106, l107, l108, l109, l110, l111, l112, l113, l114, l115, l116, l117, l118, l119, l121, l122, l127, l255, l700, l1320, l1000000] <;> exact nx
  · obtain rfl : i = 8 := by omega
    simp (disch := omega) only [xB_s, xB2_s, xGet_s, xPut_s, xAld_s, xAst_s, xIf_t, xBool_s, l0, l1, l2, l3, l4, l5, l6, l7, l8, l9, l10, l11, l12, l13, l15, l16, l17, l19, l20, l25, l27, l30, l31, l32, l33, l39, l40, l60, l61, l99, l100, l120, l256, l999, l1999, l99999, lm, nI_add, pk_mul, nI_leI, nI_ltI, nI_eq, wuS_1, wuS_2, wuA_1, wuA_21, wuA_22, nI_m1, m1_nI, nIlt_m1, m1lt_nI, Nat.reduceEqDiff, Nat.reduceAdd, Nat.reduceMul, Nat.reduceSub, Nat.reduceLT, Nat.reduceLeDiff, reduceIte, if_true, if_false, Bool.false_eq_true, Nat.add_zero, Nat.zero_add, ne_eq, not_false_eq_true, not_true_eq_false, Nat.not_lt_zero, Nat.add_left_cancel_iff, Nat.add_right_cancel_iff, eq_self, upd_s, pk_sub, nI_pm, Nat.add_sub_cancel, List.length_cons, List.length_nil, Nat.add_eq_zero_iff, Nat.succ_ne_zero, and_false, false_and, l14, l18, l21, l23, l24, l26, l28, l29, l34, l35, l36, l41, l42, l43, l45, l47, l48, l49, l50, l51, l52, l57, l58, l59, l62, l63, l64, l96, l97, l98, l101, l102, l103, l104, l105, l106, l107, l108, l109, l110, l111, l112, l113, l114, l115, l116, l117, l118, l119, l121, l122, l127, l255, l700, l1320, l1000000]
    refine wp_some ⟨a1.trans (QX.fr (((F4.mono (by simp) (by decide)).A (by decide)).A (by decide))), ?_⟩
    simp (disch := omega) only [xB_s, xB2_s, xGet_s, xPut_s, xAld_s, xAst_s, xIf_t, xBool_s, l0, l1, l2, l3, l4, l5, l6, l7, l8, l9, l10, l11, l12, l13, l15, l16, l17, l19, l20, l25, l27, l30, l31, l32, l33, l39, l40, l60, l61, l99, l100, l120, l256, l999, l1999, l99999, lm, nI_add, pk_mul, nI_leI, nI_ltI, nI_eq, wuS_1, wuS_2, wuA_1, wuA_21, wuA_22, nI_m1, m1_nI, nIlt_m1, m1lt_nI, Nat.reduceEqDiff, Nat.reduceAdd, Nat.reduceMul, Nat.reduceSub, Nat.reduceLT, Nat.reduceLeDiff, reduceIte, if_true, if_false, Bool.false_eq_true, Nat.add_zero, Nat.zero_add, ne_eq, not_false_eq_true, not_true_eq_false, Nat.not_lt_zero, Nat.add_left_cancel_iff, Nat.add_right_cancel_iff, eq_self, upd_s, pk_sub, nI_pm, Nat.add_sub_cancel, List.length_cons, List.length_nil, Nat.add_eq_zero_iff, Nat.succ_ne_zero, and_false, false_and, l14, l18, l21, l23, l24, l26, l28, l29, l34, l35, l36, l41, l42, l43, l45, l47, l48, l49, l50, l51, l52, l57, l58, l59, l62, l63, l64, l96, l97, l98, l101, l102, l103, l104, l105, l106, l107, l108, l109, l110, l111, l112, l113, l114, l115, l116, l117, l118, l119, l121, l122, l127, l255, l700, l1320, l1000000]
    rw [F4.2.1 51 (by decide), g51]
theorem q_game {t : Tn} {y : Yw} {o : wO} {wx wm : wS} {a1 a2 a3 : Int32} (h : PQ t y o wx wm) : R2 (L_X9_game o a1 a2 a3 wx) (L_X10_game a1 a2 a3 wm) (QA cdN wx wm) := by
  obtain ⟨w1, e1, q1, z1, T1, Y1, h1⟩ := h.put
  have hh := h
  obtain ⟨⟨ho, hy, hD⟩, ⟨hT, hY⟩, _⟩ := hh
  have b1 := ho.1
  have b2 := ho.2.1
  unfold L_X9_game L_X10_game J_X10_game_48 J_X10_game_41 J_X10_game_48
  simp only [xB_s, xB2_s, xIf_t, xBT_n, xBT_e, l0, l1, l2, l3, l4, l5, l6, l7, l8, l9, l10, l11, l12, l13, l15, l16, l17, l19, l20, l25, l27, l30, l31, l32, l33, l39, l40, l60, l61, l99, l100, l120, l256, l999, l1999, l99999, lm, l14, l18, l21, l23, l24, l26, l28, l29, l34, l35, l36, l41, l42, l43, l45, l47, l48, l49, l50, l51, l52, l57, l58, l59, l62, l63, l64, l96, l97, l98, l101, l102, l103, l104, l105, l106, l107, l108, l109, l110, l111, l112, l113, l114, l115, l116, l117, l118, l119, l121, l122, l127, l255, l700, l1320, l1000000, e1]
  refine g_person hT ho T1.1 z1 (by simp (disch := omega) only [xB_s, xB2_s, xGet_s, xPut_s, xAld_s, xAst_s, xIf_t, xBool_s, l0, l1, l2, l3, l4, l5, l6, l7, l8, l9, l10, l11, l12, l13, l15, l16, l17, l19, l20, l25, l27, l30, l31, l32, l33, l39, l40, l60, l61, l99, l100, l120, l256, l999, l1999, l99999, lm, nI_add, pk_mul, nI_leI, nI_ltI, nI_eq, wuS_1, wuS_2, wuA_1, wuA_21, wuA_22, nI_m1, m1_nI, nIlt_m1, m1lt_nI, Nat.reduceEqDiff, Nat.reduceAdd, Nat.reduceMul, Nat.reduceSub, Nat.reduceLT, Nat.reduceLeDiff, reduceIte, if_true, if_false, Bool.false_eq_true, Nat.add_zero, Nat.zero_add, ne_eq, not_false_eq_true, not_true_eq_false, Nat.not_lt_zero, Nat.add_left_cancel_iff, Nat.add_right_cancel_iff, eq_self, upd_s, pk_sub, nI_pm, Nat.add_sub_cancel, List.length_cons, List.length_nil, Nat.add_eq_zero_iff, Nat.succ_ne_zero, and_false, false_and, l14, l18, l21, l23, l24, l26, l28, l29, l34, l35, l36, l41, l42, l43, l45, l47, l48, l49, l50, l51, l52, l57, l58, l59, l62, l63, l64, l96, l97, l98, l101, l102, l103, l104, l105, l106, l107, l108, l109, l110, l111, l112, l113, l114, l115, l116, l117, l118, l119, l121, l122, l127, l255, l700, l1320, l1000000]; exact QA.no q1) ?_
  rintro p hp rfl
  simp (disch := omega) only [xB_s, xB2_s, xGet_s, xPut_s, xAld_s, xAst_s, xIf_t, xBool_s, l0, l1, l2, l3, l4, l5, l6, l7, l8, l9, l10, l11, l12, l13, l15, l16, l17, l19, l20, l25, l27, l30, l31, l32, l33, l39, l40, l60, l61, l99, l100, l120, l256, l999, l1999, l99999, lm, nI_add, pk_mul, nI_leI, nI_ltI, nI_eq, wuS_1, wuS_2, wuA_1, wuA_21, wuA_22, nI_m1, m1_nI, nIlt_m1, m1lt_nI, Nat.reduceEqDiff, Nat.reduceAdd, Nat.reduceMul, Nat.reduceSub, Nat.reduceLT, Nat.reduceLeDiff, reduceIte, if_true, if_false, Bool.false_eq_true, Nat.add_zero, Nat.zero_add, ne_eq, not_false_eq_true, not_true_eq_false, Nat.not_lt_zero, Nat.add_left_cancel_iff, Nat.add_right_cancel_iff, eq_self, upd_s, pk_sub, nI_pm, Nat.add_sub_cancel, List.length_cons, List.length_nil, Nat.add_eq_zero_iff, Nat.succ_ne_zero, and_false, false_and, l14, l18, l21, l23, l24, l26, l28, l29, l34, l35, l36, l41, l42, l43, l45, l47, l48, l49, l50, l51, l52, l57, l58, l59, l62, l63, l64, l96, l97, l98, l101, l102, l103, l104, l105, l106, l107, l108, l109, l110, l111, l112, l113, l114, l115, l116, l117, l118, l119, l121, l122, l127, l255, l700, l1320, l1000000]
  refine g_person hT ho T1.1 z1 (by simp (disch := omega) only [xB_s, xB2_s, xGet_s, xPut_s, xAld_s, xAst_s, xIf_t, xBool_s, l0, l1, l2, l3, l4, l5, l6, l7, l8, l9, l10, l11, l12, l13, l15, l16, l17, l19, l20, l25, l27, l30, l31, l32, l33, l39, l40, l60, l61, l99, l100, l120, l256, l999, l1999, l99999, lm, nI_add, pk_mul, nI_leI, nI_ltI, nI_eq, wuS_1, wuS_2, wuA_1, wuA_21, wuA_22, nI_m1, m1_nI, nIlt_m1, m1lt_nI, Nat.reduceEqDiff, Nat.reduceAdd, Nat.reduceMul, Nat.reduceSub, Nat.reduceLT, Nat.reduceLeDiff, reduceIte, if_true, if_false, Bool.false_eq_true, Nat.add_zero, Nat.zero_add, ne_eq, not_false_eq_true, not_true_eq_false, Nat.not_lt_zero, Nat.add_left_cancel_iff, Nat.add_right_cancel_iff, eq_self, upd_s, pk_sub, nI_pm, Nat.add_sub_cancel, List.length_cons, List.length_nil, Nat.add_eq_zero_iff, Nat.succ_ne_zero, and_false, false_and, l14, l18, l21, l23, l24, l26, l28, l29, l34, l35, l36, l41, l42, l43, l45, l47, l48, l49, l50, l51, l52, l57, l58, l59, l62, l63, l64, l96, l97, l98, l101, l102, l103, l104, l105, l106, l107, l108, l109, l110, l111, l112, l113, l114, l115, l116, l117, l118, l119, l121, l122, l127, l255, l700, l1320, l1000000]; exact QA.no q1) ?_
  rintro q hq rfl
  simp (disch := omega) only [xB_s, xB2_s, xGet_s, xPut_s, xAld_s, xAst_s, xIf_t, xBool_s, l0, l1, l2, l3, l4, l5, l6, l7, l8, l9, l10, l11, l12, l13, l15, l16, l17, l19, l20, l25, l27, l30, l31, l32, l33, l39, l40, l60, l61, l99, l100, l120, l256, l999, l1999, l99999, lm, nI_add, pk_mul, nI_leI, nI_ltI, nI_eq, wuS_1, wuS_2, wuA_1, wuA_21, wuA_22, nI_m1, m1_nI, nIlt_m1, m1lt_nI, Nat.reduceEqDiff, Nat.reduceAdd, Nat.reduceMul, Nat.reduceSub, Nat.reduceLT, Nat.reduceLeDiff, reduceIte, if_true, if_false, Bool.false_eq_true, Nat.add_zero, Nat.zero_add, ne_eq, not_false_eq_true, not_true_eq_false, Nat.not_lt_zero, Nat.add_left_cancel_iff, Nat.add_right_cancel_iff, eq_self, upd_s, pk_sub, nI_pm, Nat.add_sub_cancel, List.length_cons, List.length_nil, Nat.add_eq_zero_iff, Nat.succ_ne_zero, and_false, false_and, l14, l18, l21, l23, l24, l26, l28, l29, l34, l35, l36, l41, l42, l43, l45, l47, l48, l49, l50, l51, l52, l57, l58, l59, l62, l63, l64, l96, l97, l98, l101, l102, l103, l104, l105, l106, l107, l108, l109, l110, l111, l112, l113, l114, l115, l116, l117, l118, l119, l121, l122, l127, l255, l700, l1320, l1000000]
  refine g_what (by omega) z1 (by simp (disch := omega) only [xB_s, xB2_s, xGet_s, xPut_s, xAld_s, xAst_s, xIf_t, xBool_s, l0, l1, l2, l3, l4, l5, l6, l7, l8, l9, l10, l11, l12, l13, l15, l16, l17, l19, l20, l25, l27, l30, l31, l32, l33, l39, l40, l60, l61, l99, l100, l120, l256, l999, l1999, l99999, lm, nI_add, pk_mul, nI_leI, nI_ltI, nI_eq, wuS_1, wuS_2, wuA_1, wuA_21, wuA_22, nI_m1, m1_nI, nIlt_m1, m1lt_nI, Nat.reduceEqDiff, Nat.reduceAdd, Nat.reduceMul, Nat.reduceSub, Nat.reduceLT, Nat.reduceLeDiff, reduceIte, if_true, if_false, Bool.false_eq_true, Nat.add_zero, Nat.zero_add, ne_eq, not_false_eq_true, not_true_eq_false, Nat.not_lt_zero, Nat.add_left_cancel_iff, Nat.add_right_cancel_iff, eq_self, upd_s, pk_sub, nI_pm, Nat.add_sub_cancel, List.length_cons, List.length_nil, Nat.add_eq_zero_iff, Nat.succ_ne_zero, and_false, false_and, l14, l18, l21, l23, l24, l26, l28, l29, l34, l35, l36, l41, l42, l43, l45, l47, l48, l49, l50, l51, l52, l57, l58, l59, l62, l63, l64, l96, l97, l98, l101, l102, l103, l104, l105, l106, l107, l108, l109, l110, l111, l112, l113, l114, l115, l116, l117, l118, l119, l121, l122, l127, l255, l700, l1320, l1000000]; exact QA.no q1) ?_
  rintro a ha rfl
  simp (disch := omega) only [xB_s, xB2_s, xGet_s, xPut_s, xAld_s, xAst_s, xIf_t, xBool_s, l0, l1, l2, l3, l4, l5, l6, l7, l8, l9, l10, l11, l12, l13, l15, l16, l17, l19, l20, l25, l27, l30, l31, l32, l33, l39, l40, l60, l61, l99, l100, l120, l256, l999, l1999, l99999, lm, nI_add, pk_mul, nI_leI, nI_ltI, nI_eq, wuS_1, wuS_2, wuA_1, wuA_21, wuA_22, nI_m1, m1_nI, nIlt_m1, m1lt_nI, Nat.reduceEqDiff, Nat.reduceAdd, Nat.reduceMul, Nat.reduceSub, Nat.reduceLT, Nat.reduceLeDiff, reduceIte, if_true, if_false, Bool.false_eq_true, Nat.add_zero, Nat.zero_add, ne_eq, not_false_eq_true, not_true_eq_false, Nat.not_lt_zero, Nat.add_left_cancel_iff, Nat.add_right_cancel_iff, eq_self, upd_s, pk_sub, nI_pm, Nat.add_sub_cancel, List.length_cons, List.length_nil, Nat.add_eq_zero_iff, Nat.succ_ne_zero, and_false, false_and, l14, l18, l21, l23, l24, l26, l28, l29, l34, l35, l36, l41, l42, l43, l45, l47, l48, l49, l50, l51, l52, l57, l58, l59, l62, l63, l64, l96, l97, l98, l101, l102, l103, l104, l105, l106, l107, l108, l109, l110, l111, l112, l113, l114, l115, l116, l117, l118, l119, l121, l122, l127, l255, l700, l1320, l1000000, m_right z1]
  by_cases hpq : p = q
  · rw [if_pos hpq, if_pos hpq]
    exact QA.il q1
  · rw [if_neg hpq, if_neg hpq]
    unfold P_X9_game_34
    refine r_forX 4 (fun i s => ∃ wx2, s = (nI p, nI q, nI a, nI i, wx2) ∧ QX wx wx2 ∧ ∀ c, c < i → wx2.2.1 51 (2 * c) = gSum t (yG y p q (c / 2) (c % 2)) p (-nI (c / 2)) 8 ∧ wx2.2.1 51 (2 * c + 1) = gSum t (yG y p q (c / 2) (c % 2)) q (-nI (c % 2)) 8) ?_ (i := 0) (by omega) (by omega) ⟨wx, rfl, QX.refl, fun c hc => by omega⟩
    rintro i _ kx hi ⟨wx2, rfl, qx, h51⟩ hkk
    show R2 (B_X9_game_34 o (fun x1 x2 x3 x4 w => kx (x1, x2, x3, x4, w)) _ (nI p) (nI q) (nI a) (nI i) wx2) _ _
    unfold B_X9_game_34
    by_cases hlt : i < 4
    · simp (disch := omega) only [xB_s, xB2_s, xGet_s, xPut_s, xAld_s, xAst_s, xIf_t, xBool_s, l0, l1, l2, l3, l4, l5, l6, l7, l8, l9, l10, l11, l12, l13, l15, l16, l17, l19, l20, l25, l27, l30, l31, l32, l33, l39, l40, l60, l61, l99, l100, l120, l256, l999, l1999, l99999, lm, nI_add, pk_mul, nI_leI, nI_ltI, nI_eq, wuS_1, wuS_2, wuA_1, wuA_21, wuA_22, nI_m1, m1_nI, nIlt_m1, m1lt_nI, Nat.reduceEqDiff, Nat.reduceAdd, Nat.reduceMul, Nat.reduceSub, Nat.reduceLT, Nat.reduceLeDiff, reduceIte, if_true, if_false, Bool.false_eq_true, Nat.add_zero, Nat.zero_add, ne_eq, not_false_eq_true, not_true_eq_false, Nat.not_lt_zero, Nat.add_left_cancel_iff, Nat.add_right_cancel_iff, eq_self, upd_s, pk_sub, nI_pm, Nat.add_sub_cancel, List.length_cons, List.length_nil, Nat.add_eq_zero_iff, Nat.succ_ne_zero, and_false, false_and, l14, l18, l21, l23, l24, l26, l28, l29, l34, l35, l36, l41, l42, l43, l45, l47, l48, l49, l50, l51, l52, l57, l58, l59, l62, l63, l64, l96, l97, l98, l101, l102, l103, l104, l105, l106, l107, l108, l109, l110, l111, l112, l113, l114, l115, l116, l117, l118, l119, l121, l122, l127, l255, l700, l1320, l1000000, show (4 ≤ i) = False from eq_false (by omega)]
      refine R2.x (x_play (hT.q qx) ho hy hD (by rw [qx.2.1 14 (by decide)]; exact hY) (by omega) (by omega) hlt) ?_
      rintro wx3 ⟨qx3, e51⟩
      refine hkk hlt _ ⟨wx3, rfl, qx.trans qx3, fun c hc => ?_⟩
      rw [e51]
      simp only [upd_s]
      by_cases e : c = i
      · subst e
        exact ⟨by rw [if_neg (by omega), if_pos rfl], by rw [if_pos rfl]⟩
      · rw [if_neg (by omega), if_neg (by omega), if_neg (by omega), if_neg (by omega)]
        exact h51 c (by omega)
    · obtain rfl : i = 4 := by omega
      simp (disch := omega) only [xB_s, xB2_s, xGet_s, xPut_s, xAld_s, xAst_s, xIf_t, xBool_s, l0, l1, l2, l3, l4, l5, l6, l7, l8, l9, l10, l11, l12, l13, l15, l16, l17, l19, l20, l25, l27, l30, l31, l32, l33, l39, l40, l60, l61, l99, l100, l120, l256, l999, l1999, l99999, lm, nI_add, pk_mul, nI_leI, nI_ltI, nI_eq, wuS_1, wuS_2, wuA_1, wuA_21, wuA_22, nI_m1, m1_nI, nIlt_m1, m1lt_nI, Nat.reduceEqDiff, Nat.reduceAdd, Nat.reduceMul, Nat.reduceSub, Nat.reduceLT, Nat.reduceLeDiff, reduceIte, if_true, if_false, Bool.false_eq_true, Nat.add_zero, Nat.zero_add, ne_eq, not_false_eq_true, not_true_eq_false, Nat.not_lt_zero, Nat.add_left_cancel_iff, Nat.add_right_cancel_iff, eq_self, upd_s, pk_sub, nI_pm, Nat.add_sub_cancel, List.length_cons, List.length_nil, Nat.add_eq_zero_iff, Nat.succ_ne_zero, and_false, false_and, l14, l18, l21, l23, l24, l26, l28, l29, l34, l35, l36, l41, l42, l43, l45, l47, l48, l49, l50, l51, l52, l57, l58, l59, l62, l63, l64, l96, l97, l98, l101, l102, l103, l104, l105, l106, l107, l108, l109, l110, l111, l112, l113, l114, l115, l116, l117, l118, l119, l121, l122, l127, l255, l700, l1320, l1000000]
      have g51 : ∀ x z, x ≤ 1 → z ≤ 1 → wx2.2.1 51 (2 * (2 * x + z)) = gSum t (yG y p q x z) p (-nI x) 8 ∧ wx2.2.1 51 (2 * (2 * x + z) + 1) = gSum t (yG y p q x z) q (-nI z) 8 := by
        intro x z hx hz
        have := h51 (2 * x + z) (by omega)
        rw [show (2 * x + z) / 2 = x by omega, show (2 * x + z) % 2 = z by omega] at this
        exact this
      have z0 : ∀ x : Nat, nI 0 - nI x = -nI x := fun x => by show 0 - nI x = -nI x; rw [Int32.zero_sub]
      unfold P_X9_game_63 P_X10_game_59
      refine r_for 4 (fun c s s' => ∃ (n : Int32) (f : Int32) (wm2 : wS), s = (nI a, n, f, nI c, wx2) ∧ s' = (nI p, nI q, nI a, n, f, nI c, wm2) ∧ QM wm wm2 ∧ wm2.1 0 = nI 0) ?_ (i := 0) (by omega) (by omega) (by omega) ⟨nI 0, mI, w1, rfl, rfl, q1, z1⟩
      rintro c _ _ kx2 km2 hc ⟨n, f, wm2, rfl, rfl, qm, zm⟩ hkk2
      show R2 (B_X9_game_63 o (fun x3 x4 x5 x6 w => kx2 (x3, x4, x5, x6, w)) _ (nI a) n f (nI c) wx2) (B_X10_game_59 (fun x1 x2 x3 x4 x5 x6 w => km2 (x1, x2, x3, x4, x5, x6, w)) _ (nI p) (nI q) (nI a) n f (nI c) wm2) _
      unfold B_X9_game_63 B_X10_game_59 J_X9_game_145 J_X9_game_147 J_X10_game_149
      by_cases hcl : c < 4
      · have hx : c / 2 ≤ 1 := by omega
        have hz : c % 2 ≤ 1 := by omega
        have ed : xDiv (nI c) (nI 2) = some (nI (c / 2)) := by
          unfold xDiv
          rw [if_neg (by decide), pk_div (by omega) (by omega) (by omega)]
        have er := m_remP (j := c) (n := 2) (by omega) (by omega) (by omega)
        have k2 := cp_2 c hcl
        have k1 := cp_1 c hcl
        have kh := cp_h c hcl
        have kl := cp_l c hcl
        have f1 := g51 (c / 2) (c % 2) hx hz
        rw [show 2 * (c / 2) + c % 2 = c by omega] at f1
        have f2 := (g51 (1 - c / 2) (c % 2) (by omega) hz).1
        have f3 := (g51 (c / 2) (1 - c % 2) hx (by omega)).2
        generalize hxx : c / 2 = x at *
        generalize hzz : c % 2 = z at *
        have sub1 : nI 1 - nI x = nI (1 - x) := pk_sub hx
        have sub2 : nI 1 - nI z = nI (1 - z) := pk_sub hz
        simp only [xB_s, xB2_s, xIf_t, xBT_n, xBT_e, l0, l1, l2, l3, l4, l5, l6, l7, l8, l9, l10, l11, l12, l13, l15, l16, l17, l19, l20, l25, l27, l30, l31, l32, l33, l39, l40, l60, l61, l99, l100, l120, l256, l999, l1999, l99999, lm, l14, l18, l21, l23, l24, l26, l28, l29, l34, l35, l36, l41, l42, l43, l45, l47, l48, l49, l50, l51, l52, l57, l58, l59, l62, l63, l64, l96, l97, l98, l101, l102, l103, l104, l105, l106, l107, l108, l109, l110, l111, l112, l113, l114, l115, l116, l117, l118, l119, l121, l122, l127, l255, l700, l1320, l1000000, ed, er, sub1, sub2]
        have h4 : ¬ nI 4 ≤ nI c := by rw [nI_leI (by omega) (by omega)]; omega
        rw [if_neg h4, if_neg h4]
        have gg : ∀ (w : wS) (p' q' x' z' : Nat), QM wm w → w.1 0 = nI 0 → p' < 8 → q' < 8 → x' ≤ 1 → z' ≤ 1 → wpO (L_X10_gains (nI p') (nI q') (nI x') (nI z') w) (fun r => (QM wm r.2 ∧ r.2.1 0 = nI 0) ∧ r.1 = gSum t (yG y p' q' x' z') p' (-nI x') 8) := by
          intro w p' q' x' z' hw h0 h1 h2 h3 h4
          have hP := h.q QX.refl hw
          refine wp_mono (m_gains ⟨hP.2.2.1, hP.em⟩ ho hy hD hP.2.2.2.1 h1 h2 h3 h4) ?_
          rintro ⟨v, w'⟩ ⟨m1, m2⟩
          refine ⟨⟨hw.trans (QM.f m1), (m1.1.1 0 (by decide)).trans h0⟩, ?_⟩
          have m2 : v = gSum t (yG y p' q' x' z') p' (nI 0 - nI x') 8 := m2
          rw [z0] at m2; exact m2
        refine R2.m2 (gg wm2 p q (1 - x) z qm zm (by omega) (by omega) (by omega) hz) ?_
        rintro v3 w4 ⟨⟨qm4, zm4⟩, ev3⟩
        have ev3 : v3 = gSum t (yG y p q (1 - x) z) p (-nI (1 - x)) 8 := ev3
        refine R2.m2 (gg w4 p q x z qm4 zm4 (by omega) (by omega) (by omega) hz) ?_
        rintro v5 w6 ⟨⟨qm6, zm6⟩, ev5⟩
        have ev5 : v5 = gSum t (yG y p q x z) p (-nI x) 8 := ev5
        simp (disch := omega) only [xB_s, xB2_s, xGet_s, xPut_s, xAld_s, xAst_s, xIf_t, xBool_s, l0, l1, l2, l3, l4, l5, l6, l7, l8, l9, l10, l11, l12, l13, l15, l16, l17, l19, l20, l25, l27, l30, l31, l32, l33, l39, l40, l60, l61, l99, l100, l120, l256, l999, l1999, l99999, lm, nI_add, pk_mul, nI_leI, nI_ltI, nI_eq, wuS_1, wuS_2, wuA_1, wuA_21, wuA_22, nI_m1, m1_nI, nIlt_m1, m1lt_nI, Nat.reduceEqDiff, Nat.reduceAdd, Nat.reduceMul, Nat.reduceSub, Nat.reduceLT, Nat.reduceLeDiff, reduceIte, if_true, if_false, Bool.false_eq_true, Nat.add_zero, Nat.zero_add, ne_eq, not_false_eq_true, not_true_eq_false, Nat.not_lt_zero, Nat.add_left_cancel_iff, Nat.add_right_cancel_iff, eq_self, upd_s, pk_sub, nI_pm, Nat.add_sub_cancel, List.length_cons, List.length_nil, Nat.add_eq_zero_iff, Nat.succ_ne_zero, and_false, false_and, l14, l18, l21, l23, l24, l26, l28, l29, l34, l35, l36, l41, l42, l43, l45, l47, l48, l49, l50, l51, l52, l57, l58, l59, l62, l63, l64, l96, l97, l98, l101, l102, l103, l104, l105, l106, l107, l108, l109, l110, l111, l112, l113, l114, l115, l116, l117, l118, l119, l121, l122, l127, l255, l700, l1320, l1000000, k2, k1, f1.1, f1.2, f2, f3]
        rw [← ev5, ← ev3]
        by_cases hA : v5 < v3
        · rw [if_pos hA, if_pos hA]
          exact hkk2 hcl _ _ ⟨n, f, w6, rfl, rfl, qm6, zm6⟩
        · rw [if_neg hA, if_neg hA]
          refine R2.m2 (gg w6 q p (1 - z) x qm6 zm6 (by omega) (by omega) (by omega) hx) ?_
          rintro v7 w8 ⟨⟨qm8, zm8⟩, ev7⟩
          have ev7 : v7 = gSum t (yG y q p (1 - z) x) q (-nI (1 - z)) 8 := ev7
          refine R2.m2 (gg w8 q p z x qm8 zm8 (by omega) (by omega) (by omega) hx) ?_
          rintro v9 w10 ⟨⟨qm10, zm10⟩, ev9⟩
          have ev9 : v9 = gSum t (yG y q p z x) q (-nI z) 8 := ev9
          rw [yG_sw (fun e => hpq e.symm)] at ev7 ev9
          rw [← ev7, ← ev9]
          by_cases hB : v9 < v7
          · rw [if_pos hB, if_neg (Int32.not_le.mpr hB)]
            exact hkk2 hcl _ _ ⟨n, f, w10, rfl, rfl, qm10, zm10⟩
          · rw [if_neg hB, if_pos (Int32.not_lt.mp hB)]
            simp (disch := omega) only [xB_s, xB2_s, xGet_s, xPut_s, xAld_s, xAst_s, xIf_t, xBool_s, l0, l1, l2, l3, l4, l5, l6, l7, l8, l9, l10, l11, l12, l13, l15, l16, l17, l19, l20, l25, l27, l30, l31, l32, l33, l39, l40, l60, l61, l99, l100, l120, l256, l999, l1999, l99999, lm, nI_add, pk_mul, nI_leI, nI_ltI, nI_eq, wuS_1, wuS_2, wuA_1, wuA_21, wuA_22, nI_m1, m1_nI, nIlt_m1, m1lt_nI, Nat.reduceEqDiff, Nat.reduceAdd, Nat.reduceMul, Nat.reduceSub, Nat.reduceLT, Nat.reduceLeDiff, reduceIte, if_true, if_false, Bool.false_eq_true, Nat.add_zero, Nat.zero_add, ne_eq, not_false_eq_true, not_true_eq_false, Nat.not_lt_zero, Nat.add_left_cancel_iff, Nat.add_right_cancel_iff, eq_self, upd_s, pk_sub, nI_pm, Nat.add_sub_cancel, List.length_cons, List.length_nil, Nat.add_eq_zero_iff, Nat.succ_ne_zero, and_false, false_and, l14, l18, l21, l23, l24, l26, l28, l29, l34, l35, l36, l41, l42, l43, l45, l47, l48, l49, l50, l51, l52, l57, l58, l59, l62, l63, l64, l96, l97, l98, l101, l102, l103, l104, l105, l106, l107, l108, l109, l110, l111, l112, l113, l114, l115, l116, l117, l118, l119, l121, l122, l127, l255, l700, l1320, l1000000, kh, kl]
            by_cases hf : f = mI
            · rw [if_pos hf, if_pos hf]
              exact hkk2 hcl _ _ ⟨_, _, w10, rfl, rfl, qm10, zm10⟩
            · rw [if_neg hf, if_neg hf]
              exact hkk2 hcl _ _ ⟨_, _, w10, rfl, rfl, qm10, zm10⟩
      · obtain rfl : c = 4 := by omega
        unfold J_X9_game_164 J_X10_game_166
        by_cases ha0 : a = 0
        · simp (disch := omega) only [xB_s, xB2_s, xGet_s, xPut_s, xAld_s, xAst_s, xIf_t, xBool_s, l0, l1, l2, l3, l4, l5, l6, l7, l8, l9, l10, l11, l12, l13, l15, l16, l17, l19, l20, l25, l27, l30, l31, l32, l33, l39, l40, l60, l61, l99, l100, l120, l256, l999, l1999, l99999, lm, nI_add, pk_mul, nI_leI, nI_ltI, nI_eq, wuS_1, wuS_2, wuA_1, wuA_21, wuA_22, nI_m1, m1_nI, nIlt_m1, m1lt_nI, Nat.reduceEqDiff, Nat.reduceAdd, Nat.reduceMul, Nat.reduceSub, Nat.reduceLT, Nat.reduceLeDiff, reduceIte, if_true, if_false, Bool.false_eq_true, Nat.add_zero, Nat.zero_add, ne_eq, not_false_eq_true, not_true_eq_false, Nat.not_lt_zero, Nat.add_left_cancel_iff, Nat.add_right_cancel_iff, eq_self, upd_s, pk_sub, nI_pm, Nat.add_sub_cancel, List.length_cons, List.length_nil, Nat.add_eq_zero_iff, Nat.succ_ne_zero, and_false, false_and, l14, l18, l21, l23, l24, l26, l28, l29, l34, l35, l36, l41, l42, l43, l45, l47, l48, l49, l50, l51, l52, l57, l58, l59, l62, l63, l64, l96, l97, l98, l101, l102, l103, l104, l105, l106, l107, l108, l109, l110, l111, l112, l113, l114, l115, l116, l117, l118, l119, l121, l122, l127, l255, l700, l1320, l1000000, ha0]
          exact QA.ok qx qm zm rfl
        · simp (disch := omega) only [xB_s, xB2_s, xGet_s, xPut_s, xAld_s, xAst_s, xIf_t, xBool_s, l0, l1, l2, l3, l4, l5, l6, l7, l8, l9, l10, l11, l12, l13, l15, l16, l17, l19, l20, l25, l27, l30, l31, l32, l33, l39, l40, l60, l61, l99, l100, l120, l256, l999, l1999, l99999, lm, nI_add, pk_mul, nI_leI, nI_ltI, nI_eq, wuS_1, wuS_2, wuA_1, wuA_21, wuA_22, nI_m1, m1_nI, nIlt_m1, m1lt_nI, Nat.reduceEqDiff, Nat.reduceAdd, Nat.reduceMul, Nat.reduceSub, Nat.reduceLT, Nat.reduceLeDiff, reduceIte, if_true, if_false, Bool.false_eq_true, Nat.add_zero, Nat.zero_add, ne_eq, not_false_eq_true, not_true_eq_false, Nat.not_lt_zero, Nat.add_left_cancel_iff, Nat.add_right_cancel_iff, eq_self, upd_s, pk_sub, nI_pm, Nat.add_sub_cancel, List.length_cons, List.length_nil, Nat.add_eq_zero_iff, Nat.succ_ne_zero, and_false, false_and, l14, l18, l21, l23, l24, l26, l28, l29, l34, l35, l36, l41, l42, l43, l45, l47, l48, l49, l50, l51, l52, l57, l58, l59, l62, l63, l64, l96, l97, l98, l101, l102, l103, l104, l105, l106, l107, l108, l109, l110, l111, l112, l113, l114, l115, l116, l117, l118, l119, l121, l122, l127, l255, l700, l1320, l1000000, ha0]
          exact QA.ok qx qm zm rfl
end
