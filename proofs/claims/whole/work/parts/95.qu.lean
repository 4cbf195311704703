section
/-! ===== next ===== -/
theorem t6_or (x y : Int64) : t6 (x ||| y) = t6 x ||| t6 y := by unfold t6; rw [Int64.toBitVec_or, BitVec.toNat_or]
theorem hr_bit : ∀ m, m < 128 → t6 ((1 : Int64) <<< ((nI m &&& nI 63).toInt64 &&& 63)) = 2 ^ (m % 64) := by decide +kernel
theorem hr_ix : ∀ m, m < 128 → (nI m >>> (nI 6 &&& nI 31)) &&& nI 1 = nI (m / 64) := by decide +kernel
def hb (w : wS) (d m : Nat) : Bool := (t6 (w.2.2.2.1 52 (2 * d + m / 64))).testBit (m % 64)
theorem xAldJ_s {w : wS} {c n i : Nat} (h : i < n) (hn : n < 2 ^ 31) : xAldJ w c n (nI i) = some (w.2.2.2.1 c i) := by
  unfold xAldJ
  rw [if_pos (inB_nI h hn), nI_clamp (by omega)]
theorem xAstJ_s {w : wS} {c n i : Nat} {v : Int64} (h : i < n) (hn : n < 2 ^ 31) : xAstJ w c n (nI i) v = some (wuJ w c (vp_updL (w.2.2.2.1 c) i v)) := by
  unfold xAstJ
  rw [if_pos (inB_nI h hn), nI_clamp (by omega)]
theorem QX.J {w w' : wS} {f : Nat → Int64} (h : QX w w') : QX w (wuJ w' 52 f) := ⟨h.1, h.2.1, h.2.2.1, h.2.2.2.1, fun c hc => by
  show (if c = 52 then f else w'.2.2.2.1 c) = _
  rw [if_neg hc]; exact h.2.2.2.2 c hc⟩
theorem wuJ_at {w : wS} {f : Nat → Int64} : (wuJ w 52 f).2.2.2.1 52 = f := by
  show (if 52 = 52 then f else w.2.2.2.1 52) = f
  rw [if_pos rfl]
theorem x_fillJ {o : wO} {w : wS} {v : Int64} : wpO (L_J7_fill_d0a16_x52 o v w) (fun w' => QX w w' ∧ ∀ i, i < 12 → w'.2.2.2.1 52 i = v) := by
  unfold L_J7_fill_d0a16_x52 P_J7_fill_d0a16_x52_6
  simp (disch := omega) only [xB_s, xB2_s, xGet_s, xPut_s, xAld_s, xAst_s, xIf_t, xBool_s, l0, l1, l2, l3, l4, l5, l6, l7, l8, l9, l10, l11, l12, l13, l15, l16, l17, l19, l20, l25, l27, l30, l31, l32, l33, l39, l40, l60, l61, l99, l100, l120, l256, l999, l1999, l99999, lm, nI_add, pk_mul, nI_leI, nI_ltI, nI_eq, wuS_1, wuS_2, wuA_1, wuA_21, wuA_22, nI_m1, m1_nI, nIlt_m1, m1lt_nI, Nat.reduceEqDiff, Nat.reduceAdd, Nat.reduceMul, Nat.reduceSub, Nat.reduceLT, Nat.reduceLeDiff, reduceIte, if_true, if_false, Bool.false_eq_true, Nat.add_zero, Nat.zero_add, ne_eq, not_false_eq_true, not_true_eq_false, Nat.not_lt_zero, Nat.add_left_cancel_iff, Nat.add_right_cancel_iff, eq_self, upd_s, pk_sub, nI_pm, Nat.add_sub_cancel, List.length_cons, List.length_nil, Nat.add_eq_zero_iff, Nat.succ_ne_zero, and_false, false_and, l14, l18, l21, l23, l24, l26, l28, l29, l34, l35, l36, l41, l42, l43, l45, l47, l48, l49, l50, l51, l52, l57, l58, l59, l62, l63, l64, l96, l97, l98, l101, l102, l103, l104, l105, l106, l107, l108, l109, l110, l111, l112, l113, l114, l115, l116, l117, l118, l119, l121, l122, l127, l255, l700, l1320, l1000000]
  refine wp_for 12 (fun i σ => ∃ w', σ = (v, nI i, nI 12, w') ∧ QX w w' ∧ ∀ j, j < i → w'.2.2.2.1 52 j = v) ?_ (i := 0) (by omega) (by omega) ⟨w, rfl, QX.refl, fun j hj => absurd hj (Nat.not_lt_zero j)⟩
  rintro i _ kk hi ⟨w', rfl, qx, h⟩ hkk
  show wpO (B_J7_fill_d0a16_x52_6 o (fun x1 x3 x4 w => kk (x1, x3, x4, w)) _ v (nI i) (nI 12) w') _
  unfold B_J7_fill_d0a16_x52_6
  by_cases hlt : i < 12
  · simp (disch := omega) only [xB_s, xB2_s, xGet_s, xPut_s, xAld_s, xAst_s, xIf_t, xBool_s, l0, l1, l2, l3, l4, l5, l6, l7, l8, l9, l10, l11, l12, l13, l15, l16, l17, l19, l20, l25, l27, l30, l31, l32, l33, l39, l40, l60, l61, l99, l100, l120, l256, l999, l1999, l99999, lm, nI_add, pk_mul, nI_leI, nI_ltI, nI_eq, wuS_1, wuS_2, wuA_1, wuA_21, wuA_22, nI_m1, m1_nI, nIlt_m1, m1lt_nI, Nat.reduceEqDiff, Nat.reduceAdd, Nat.reduceMul, Nat.reduceSub, Nat.reduceLT, Nat.reduceLeDiff, reduceIte, if_true, if_false, Bool.false_eq_true, Nat.add_zero, Nat.zero_add, ne_eq, not_false_eq_true, not_true_eq_false, Nat.not_lt_zero, Nat.add_left_cancel_iff, Nat.add_right_cancel_iff, eq_self, upd_s, pk_sub, nI_pm, Nat.add_sub_cancel, List.length_cons, List.length_nil, Nat.add_eq_zero_iff, Nat.succ_ne_zero, and_false, false_and, l14, l18, l21, l23, l24, l26, l28, l29, l34, l35, l36, l41, l42, l43, l45, l47, l48, l49, l50, l51, l52, l57, l58, l59, l62, l63, l64, l96, l97, l98, l101, l102, l103, l104, l105, l106, l107, l108, l109, l110, l111, l112, l113, l114, l115, l116, l117, l118, l119, l121, l122, l127, l255, l700, l1320, l1000000, show (12 ≤ i) = False from eq_false (by omega), xAstJ_s]
    refine hkk hlt _ ⟨_, rfl, qx.J, fun j hj => ?_⟩
    rw [wuJ_at]
    show (if j = i then v else w'.2.2.2.1 52 j) = v
    by_cases e : j = i
    · rw [if_pos e]
    · rw [if_neg e]; exact h j (by omega)
  · obtain rfl : i = 12 := by omega
    simp (disch := omega) only [xB_s, xB2_s, xGet_s, xPut_s, xAld_s, xAst_s, xIf_t, xBool_s, l0, l1, l2, l3, l4, l5, l6, l7, l8, l9, l10, l11, l12, l13, l15, l16, l17, l19, l20, l25, l27, l30, l31, l32, l33, l39, l40, l60, l61, l99, l100, l120, l256, l999, l1999, l99999, lm, nI_add, pk_mul, nI_leI, nI_ltI, nI_eq, wuS_1, wuS_2, wuA_1, wuA_21, wuA_22, nI_m1, m1_nI, nIlt_m1, m1lt_nI, Nat.reduceEqDiff, Nat.reduceAdd, Nat.reduceMul, Nat.reduceSub, Nat.reduceLT, Nat.reduceLeDiff, reduceIte, if_true, if_false, Bool.false_eq_true, Nat.add_zero, Nat.zero_add, ne_eq, not_false_eq_true, not_true_eq_false, Nat.not_lt_zero, Nat.add_left_cancel_iff, Nat.add_right_cancel_iff, eq_self, upd_s, pk_sub, nI_pm, Nat.add_sub_cancel, List.length_cons, List.length_nil, Nat.add_eq_zero_iff, Nat.succ_ne_zero, and_false, false_and, l14, l18, l21, l23, l24, l26, l28, l29, l34, l35, l36, l41, l42, l43, l45, l47, l48, l49, l50, l51, l52, l57, l58, l59, l62, l63, l64, l96, l97, l98, l101, l102, l103, l104, l105, l106, l107, l108, l109, l110, l111, l112, l113, l114, l115, l116, l117, l118, l119, l121, l122, l127, l255, l700, l1320, l1000000]
    exact wp_some ⟨qx, h⟩
theorem x_hear {t : Tn} {y : Yw} {o : wO} {w : wS} {p h : Nat} (T : XT t o w) (ho : tOk t) (hy : yOk t y) (hD : yD y ≤ 999) (Y : XY y (w.2.1 14)) (hp : p < tP t) (hh : h ≤ 60) : wpO (L_X9_hearSecondDay o (nI p) (nI h) w) (fun w' => QX w w' ∧ ∀ d, d < tD t → ∀ m, m < 128 → hb w' d m = (hb w d m || decide (m = bvG t y (61 * p + h) d))) := by
  have b1 := ho.1
  have b2 := ho.2.1
  have eB : ∀ d, bvG t y (61 * p + h) d = behS (tG t p h) (exC 0) (daysY (tG t p h) (exC 0) y 1) d := fun d => by
    unfold bvG
    rw [show (61 * p + h) % 61 = h by omega, show (61 * p + h) / 61 = p by omega]
  unfold L_X9_hearSecondDay
  refine wp_B (wp_an2 (x_fromNow T ho Y) (x_fromNowJ T ho Y)) ?_
  rintro w1 ⟨⟨a1, a2, a3, a4, a5, a6⟩, aJ⟩
  simp (disch := omega) only [xB_s, xB2_s, xGet_s, xPut_s, xAld_s, xAst_s, xIf_t, xBool_s, l0, l1, l2, l3, l4, l5, l6, l7, l8, l9, l10, l11, l12, l13, l15, l16, l17, l19, l20, l25, l27, l30, l31, l32, l33, l39, l40, l60, l61, l99, l100, l120, l256, l999, l1999, l99999, lm, nI_add, pk_mul, nI_leI, nI_ltI, nI_eq, wuS_1, wuS_2, wuA_1, wuA_21, wuA_22, nI_m1, m1_nI, nIlt_m1, m1lt_nI, Nat.reduceEqDiff, Nat.reduceAdd, Nat.reduceMul, Nat.reduceSub, Nat.reduceLT, Nat.reduceLeDiff, reduceIte, if_true, if_false, Bool.false_eq_true, Nat.add_zero, Nat.zero_add, ne_eq, not_false_eq_true, not_true_eq_false, Nat.not_lt_zero, Nat.add_left_cancel_iff, Nat.add_right_cancel_iff, eq_self, upd_s, pk_sub, nI_pm, Nat.add_sub_cancel, List.length_cons, List.length_nil, Nat.add_eq_zero_iff, Nat.succ_ne_zero, and_false, false_and, l14, l18, l21, l23, l24, l26, l28, l29, l34, l35, l36, l41, l42, l43, l45, l47, l48, l49, l50, l51, l52, l57, l58, l59, l62, l63, l64, l96, l97, l98, l101, l102, l103, l104, l105, l106, l107, l108, l109, l110, l111, l112, l113, l114, l115, l116, l117, l118, l119, l121, l122, l127, l255, l700, l1320, l1000000]
  have q2 : QX w (wuA w1 33 (upd (w1.2.1 33) p (nI h))) := a1.trans (QX.fr (Fr.refl.A (by decide)))
  have hy' : yOk (tG t p h) y := hy
  refine wp_B (x_oneDay (y := y) (a2.g (p := p) (h := h)) (tG_ok ho hh) hy' (show (0 : Nat) ≤ 15 by omega) a3 (by rw [wuA_21, if_neg (by decide)]; exact a5)) ?_
  rintro w2 ⟨c1, c2, c3, c4⟩
  refine wp_B (x_oneDay ((a2.g (p := p) (h := h)).fr c1) (tG_ok ho hh) (daysY_ok (ex := exC 0) hy' 1 (by omega)) (show (0 : Nat) ≤ 15 by omega) c2 c3) ?_
  rintro w3 ⟨d1, d2, d3, d4⟩
  have q3 : QX w w3 := q2.trans ((QX.fr2 c1).trans (QX.fr2 d1))
  have j3 : w3.2.2.2.1 = w.2.2.2.1 := by
    rw [d1.2.2, c1.2.2]; exact aJ
  have h38 : ∀ d, d < tD t → w3.2.1 38 d = nI (bvG t y (61 * p + h) d) := fun d hd => by rw [eB]; exact d4.2.2.1 d hd
  have hle : ∀ d, bvG t y (61 * p + h) d ≤ 120 := fun d => behS_le _ _ _ _
  unfold P_X9_hearSecondDay_23
  refine wp_for (tD t) (fun i σ => ∃ w', σ = (nI i, w') ∧ QX w w' ∧ w'.2.1 38 = w3.2.1 38 ∧ (∀ d, d < i → ∀ m, m < 128 → hb w' d m = (hb w d m || decide (m = bvG t y (61 * p + h) d))) ∧ ∀ j, 2 * i ≤ j → w'.2.2.2.1 52 j = w.2.2.2.1 52 j) ?_ (i := 0) (by omega) (by omega) ⟨w3, rfl, q3, rfl, fun d hd => absurd hd (Nat.not_lt_zero d), fun j _ => by rw [j3]⟩
  rintro i _ kk hi ⟨w', rfl, qx, e38, hb1, hb2⟩ hkk
  show wpO (B_X9_hearSecondDay_23 o (fun x4 w => kk (x4, w)) _ (nI i) w') _
  have T' := T.q qx
  have r9 := xRef_t T'.2.1
  unfold B_X9_hearSecondDay_23
  by_cases hlt : i < tD t
  · have g1 := h38 i hlt
    have g2 := hle i
    rw [← e38] at g1
    generalize hmm : bvG t y (61 * p + h) i = m at *
    have g3 := hr_ix m (by omega)
    have g4 := hr_bit m (by omega)
    simp (disch := omega) only [xB_s, xB2_s, xGet_s, xPut_s, xAld_s, xAst_s, xIf_t, xBool_s, l0, l1, l2, l3, l4, l5, l6, l7, l8, l9, l10, l11, l12, l13, l15, l16, l17, l19, l20, l25, l27, l30, l31, l32, l33, l39, l40, l60, l61, l99, l100, l120, l256, l999, l1999, l99999, lm, nI_add, pk_mul, nI_leI, nI_ltI, nI_eq, wuS_1, wuS_2, wuA_1, wuA_21, wuA_22, nI_m1, m1_nI, nIlt_m1, m1lt_nI, Nat.reduceEqDiff, Nat.reduceAdd, Nat.reduceMul, Nat.reduceSub, Nat.reduceLT, Nat.reduceLeDiff, reduceIte, if_true, if_false, Bool.false_eq_true, Nat.add_zero, Nat.zero_add, ne_eq, not_false_eq_true, not_true_eq_false, Nat.not_lt_zero, Nat.add_left_cancel_iff, Nat.add_right_cancel_iff, eq_self, upd_s, pk_sub, nI_pm, Nat.add_sub_cancel, List.length_cons, List.length_nil, Nat.add_eq_zero_iff, Nat.succ_ne_zero, and_false, false_and, l14, l18, l21, l23, l24, l26, l28, l29, l34, l35, l36, l41, l42, l43, l45, l47, l48, l49, l50, l51, l52, l57, l58, l59, l62, l63, l64, l96, l97, l98, l101, l102, l103, l104, l105, l106, l107, l108, l109, l110, l111, l112, l113, l114, l115, l116, l117, l118, l119, l121, l122, l127, l255, l700, l1320, l1000000, r9, T'.1.2.1, show (tD t ≤ i) = False from eq_false (by omega), g1, g3, xAldJ_s, xAstJ_s]
    refine hkk hlt _ ⟨_, rfl, qx.J, e38, fun d hd k hk => ?_, fun j hj => ?_⟩
    · unfold hb
      rw [wuJ_at]
      show (t6 (if 2 * d + k / 64 = 2 * i + m / 64 then _ else _)).testBit (k % 64) = _
      by_cases e : d = i
      · subst e
        rw [hmm]
        have ez : w'.2.2.2.1 52 (2 * d + k / 64) = w.2.2.2.1 52 (2 * d + k / 64) := hb2 _ (by omega)
        by_cases z : k / 64 = m / 64
        · rw [if_pos (by omega), t6_or, g4, Nat.testBit_or, Nat.testBit_two_pow, ← z, ez]
          congr 1
          apply decide_eq_decide.mpr
          omega
        · rw [if_neg (by omega), ez, decide_eq_false (show ¬ k = m from fun q => z (by rw [q])), Bool.or_false]
      · rw [if_neg (by omega)]
        exact hb1 d (by omega) k hk
    · rw [wuJ_at]
      show (if j = 2 * i + m / 64 then _ else _) = _
      rw [if_neg (by omega)]
      exact hb2 j (by omega)
  · obtain rfl : i = tD t := by omega
    simp (disch := omega) only [xB_s, xB2_s, xGet_s, xPut_s, xAld_s, xAst_s, xIf_t, xBool_s, l0, l1, l2, l3, l4, l5, l6, l7, l8, l9, l10, l11, l12, l13, l15, l16, l17, l19, l20, l25, l27, l30, l31, l32, l33, l39, l40, l60, l61, l99, l100, l120, l256, l999, l1999, l99999, lm, nI_add, pk_mul, nI_leI, nI_ltI, nI_eq, wuS_1, wuS_2, wuA_1, wuA_21, wuA_22, nI_m1, m1_nI, nIlt_m1, m1lt_nI, Nat.reduceEqDiff, Nat.reduceAdd, Nat.reduceMul, Nat.reduceSub, Nat.reduceLT, Nat.reduceLeDiff, reduceIte, if_true, if_false, Bool.false_eq_true, Nat.add_zero, Nat.zero_add, ne_eq, not_false_eq_true, not_true_eq_false, Nat.not_lt_zero, Nat.add_left_cancel_iff, Nat.add_right_cancel_iff, eq_self, upd_s, pk_sub, nI_pm, Nat.add_sub_cancel, List.length_cons, List.length_nil, Nat.add_eq_zero_iff, Nat.succ_ne_zero, and_false, false_and, l14, l18, l21, l23, l24, l26, l28, l29, l34, l35, l36, l41, l42, l43, l45, l47, l48, l49, l50, l51, l52, l57, l58, l59, l62, l63, l64, l96, l97, l98, l101, l102, l103, l104, l105, l106, l107, l108, l109, l110, l111, l112, l113, l114, l115, l116, l117, l118, l119, l121, l122, l127, l255, l700, l1320, l1000000, r9, T'.1.2.1, Nat.le_refl]
    exact wp_some ⟨qx, hb1⟩
/-- some guess ahead of g makes d ring by m -/
def eG (t : Tn) (y : Yw) (s : Sn) (d m : Nat) : Nat → Bool
  | 0 => false
  | g + 1 => eG t y s d m g || (gU t y s g && decide (m = bvG t y g d))
theorem eG_n {t : Tn} {y : Yw} {s : Sn} {d m g : Nat} (h : gU t y s g = false) : eG t y s d m (g + 1) = eG t y s d m g := by
  show (_ || (gU t y s g && _)) = _
  rw [h, Bool.false_and, Bool.or_false]
theorem eG_y {t : Tn} {y : Yw} {s : Sn} {d m g : Nat} (h : gU t y s g = true) : eG t y s d m (g + 1) = (eG t y s d m g || decide (m = bvG t y g d)) := by
  show (_ || (gU t y s g && _)) = _
  rw [h, Bool.true_and]
theorem x_nextL {t : Tn} {y : Yw} {s : Sn} {o : wO} {w w0 wm : wS} {a : Int32} {ke : Int32 → wS → Option ((Int32 ⊕ String) × wS)} {Q : (Int32 ⊕ String) × wS → Prop} (h : PS t y s o w0 wm) (q0 : QX w0 w) (hz : ∀ i, i < 12 → w.2.2.2.1 52 i = 0) (hk : ∀ w', QX w0 w' → (∀ d, d < tD t → ∀ m, m < 128 → hb w' d m = eG t y s d m (61 * tP t)) → wpO (ke a w') Q) : wpO (P_X9_next_15 o ke 5000 a (nI 0) w) Q := by
  obtain ⟨hq, hs, hSx, hS⟩ := h
  have hh := hq
  obtain ⟨⟨ho, hy, hD⟩, ⟨hT, hY⟩, _⟩ := hh
  have b1 := ho.1
  have b2 := ho.2.1
  unfold P_X9_next_15
  refine wp_for (tP t) (fun p σ => ∃ (w' : wS), σ = (a, nI p, w') ∧ QX w0 w' ∧ ∀ d, d < tD t → ∀ m, m < 128 → hb w' d m = eG t y s d m (61 * p)) ?_ (Nat.zero_le _) (by omega) ⟨w, rfl, q0, fun d hd m hm => ?_⟩
  · rintro p _ kk hi ⟨w', rfl, qx, hn⟩ hkk
    show wpO (B_X9_next_15 o (fun x1 x2 w => kk (x1, x2, w)) _ a (nI p) w') _
    have r9 := xRef_t (hT.q qx).2.1
    unfold B_X9_next_15
    by_cases hlt : p < tP t
    · simp (disch := omega) only [xB_s, xB2_s, xGet_s, xPut_s, xAld_s, xAst_s, xIf_t, xBool_s, l0, l1, l2, l3, l4, l5, l6, l7, l8, l9, l10, l11, l12, l13, l15, l16, l17, l19, l20, l25, l27, l30, l31, l32, l33, l39, l40, l60, l61, l99, l100, l120, l256, l999, l1999, l99999, lm, nI_add, pk_mul, nI_leI, nI_ltI, nI_eq, wuS_1, wuS_2, wuA_1, wuA_21, wuA_22, nI_m1, m1_nI, nIlt_m1, m1lt_nI, Nat.reduceEqDiff, Nat.reduceAdd, Nat.reduceMul, Nat.reduceSub, Nat.reduceLT, Nat.reduceLeDiff, reduceIte, if_true, if_false, Bool.false_eq_true, Nat.add_zero, Nat.zero_add, ne_eq, not_false_eq_true, not_true_eq_false, Nat.not_lt_zero, Nat.add_left_cancel_iff, Nat.add_right_cancel_iff, eq_self, upd_s, pk_sub, nI_pm, Nat.add_sub_cancel, List.length_cons, List.length_nil, Nat.add_eq_zero_iff, Nat.succ_ne_zero, and_false, false_and, l14, l18, l21, l23, l24, l26, l28, l29, l34, l35, l36, l41, l42, l43, l45, l47, l48, l49, l50, l51, l52, l57, l58, l59, l62, l63, l64, l96, l97, l98, l101, l102, l103, l104, l105, l106, l107, l108, l109, l110, l111, l112, l113, l114, l115, l116, l117, l118, l119, l121, l122, l127, l255, l700, l1320, l1000000, r9, (hT.q qx).1.1, show (tP t ≤ p) = False from eq_false (by omega)]
      unfold P_X9_next_28
      refine wp_for 61 (fun h σ => ∃ (w' : wS), σ = (a, nI p, nI h, w') ∧ QX w0 w' ∧ ∀ d, d < tD t → ∀ m, m < 128 → hb w' d m = eG t y s d m (61 * p + h)) ?_ (Nat.zero_le _) (by omega) ⟨w', rfl, qx, hn⟩
      rintro h _ kk2 hi2 ⟨w2, rfl, qx2, hn2⟩ hkk2
      show wpO (B_X9_next_28 o (fun x1 x2 x3 w => kk2 (x1, x2, x3, w)) _ a (nI p) (nI h) w2) _
      have hT2 := hT.q qx2
      have r9' := xRef_t hT2.2.1
      have hY2 : XY y (w2.2.1 14) := by rw [qx2.2.1 14 (by decide)]; exact hY
      have hH := ho.2.2.2.2.1 p
      unfold B_X9_next_28 J_X9_next_62
      by_cases hl2 : h < 61
      · simp (disch := omega) only [xB_s, xB2_s, xGet_s, xPut_s, xAld_s, xAst_s, xIf_t, xBool_s, l0, l1, l2, l3, l4, l5, l6, l7, l8, l9, l10, l11, l12, l13, l15, l16, l17, l19, l20, l25, l27, l30, l31, l32, l33, l39, l40, l60, l61, l99, l100, l120, l256, l999, l1999, l99999, lm, nI_add, pk_mul, nI_leI, nI_ltI, nI_eq, wuS_1, wuS_2, wuA_1, wuA_21, wuA_22, nI_m1, m1_nI, nIlt_m1, m1lt_nI, Nat.reduceEqDiff, Nat.reduceAdd, Nat.reduceMul, Nat.reduceSub, Nat.reduceLT, Nat.reduceLeDiff, reduceIte, if_true, if_false, Bool.false_eq_true, Nat.add_zero, Nat.zero_add, ne_eq, not_false_eq_true, not_true_eq_false, Nat.not_lt_zero, Nat.add_left_cancel_iff, Nat.add_right_cancel_iff, eq_self, upd_s, pk_sub, nI_pm, Nat.add_sub_cancel, List.length_cons, List.length_nil, Nat.add_eq_zero_iff, Nat.succ_ne_zero, and_false, false_and, l14, l18, l21, l23, l24, l26, l28, l29, l34, l35, l36, l41, l42, l43, l45, l47, l48, l49, l50, l51, l52, l57, l58, l59, l62, l63, l64, l96, l97, l98, l101, l102, l103, l104, l105, l106, l107, l108, l109, l110, l111, l112, l113, l114, l115, l116, l117, l118, l119, l121, l122, l127, l255, l700, l1320, l1000000, show (60 < h) = False from eq_false (by omega), r9', hT2.2.2 p hlt]
        by_cases e : h = tH t p
        · rw [if_pos e]
          have hg : gU t y s (61 * p + h) = false := by rw [gU_at hl2, decide_eq_false (fun z => z e)]; rfl
          exact hkk2 hl2 _ ⟨w2, rfl, qx2, fun d hd m hm => by rw [show 61 * p + (h + 1) = 61 * p + h + 1 by omega, eG_n hg]; exact hn2 d hd m hm⟩
        · rw [if_neg e]
          refine wp_B2 (x_asSeen hT2 ho hy hD hs (hSx.q qx2) hY2 hlt (by omega)) ?_
          rintro v w3 ⟨c1, c2, c3⟩
          have c2 : v = nI (okD (tG t p h) y s 12).toNat := c2
          have c3 : w3.2.2.2.1 = w2.2.2.2.1 := c3
          have hg : gU t y s (61 * p + h) = okD (tG t p h) y s 12 := by rw [gU_at hl2, decide_eq_true e]; rfl
          have qx3 := qx2.trans c1
          have e3 : ∀ d m, hb w3 d m = hb w2 d m := fun d m => by unfold hb; rw [c3]
          cases hok : okD (tG t p h) y s 12 with
          | false =>
            rw [hok] at hg
            rw [c2, hok]
            simp (disch := omega) only [xB_s, xB2_s, xGet_s, xPut_s, xAld_s, xAst_s, xIf_t, xBool_s, l0, l1, l2, l3, l4, l5, l6, l7, l8, l9, l10, l11, l12, l13, l15, l16, l17, l19, l20, l25, l27, l30, l31, l32, l33, l39, l40, l60, l61, l99, l100, l120, l256, l999, l1999, l99999, lm, nI_add, pk_mul, nI_leI, nI_ltI, nI_eq, wuS_1, wuS_2, wuA_1, wuA_21, wuA_22, nI_m1, m1_nI, nIlt_m1, m1lt_nI, Nat.reduceEqDiff, Nat.reduceAdd, Nat.reduceMul, Nat.reduceSub, Nat.reduceLT, Nat.reduceLeDiff, reduceIte, if_true, if_false, Bool.false_eq_true, Nat.add_zero, Nat.zero_add, ne_eq, not_false_eq_true, not_true_eq_false, Nat.not_lt_zero, Nat.add_left_cancel_iff, Nat.add_right_cancel_iff, eq_self, upd_s, pk_sub, nI_pm, Nat.add_sub_cancel, List.length_cons, List.length_nil, Nat.add_eq_zero_iff, Nat.succ_ne_zero, and_false, false_and, l14, l18, l21, l23, l24, l26, l28, l29, l34, l35, l36, l41, l42, l43, l45, l47, l48, l49, l50, l51, l52, l57, l58, l59, l62, l63, l64, l96, l97, l98, l101, l102, l103, l104, l105, l106, l107, l108, l109, l110, l111, l112, l113, l114, l115, l116, l117, l118, l119, l121, l122, l127, l255, l700, l1320, l1000000, Bool.toNat_false]
            exact hkk2 hl2 _ ⟨w3, rfl, qx3, fun d hd m hm => by rw [show 61 * p + (h + 1) = 61 * p + h + 1 by omega, eG_n hg, e3]; exact hn2 d hd m hm⟩
          | true =>
            rw [hok] at hg
            rw [c2, hok]
            simp (disch := omega) only [xB_s, xB2_s, xGet_s, xPut_s, xAld_s, xAst_s, xIf_t, xBool_s, l0, l1, l2, l3, l4, l5, l6, l7, l8, l9, l10, l11, l12, l13, l15, l16, l17, l19, l20, l25, l27, l30, l31, l32, l33, l39, l40, l60, l61, l99, l100, l120, l256, l999, l1999, l99999, lm, nI_add, pk_mul, nI_leI, nI_ltI, nI_eq, wuS_1, wuS_2, wuA_1, wuA_21, wuA_22, nI_m1, m1_nI, nIlt_m1, m1lt_nI, Nat.reduceEqDiff, Nat.reduceAdd, Nat.reduceMul, Nat.reduceSub, Nat.reduceLT, Nat.reduceLeDiff, reduceIte, if_true, if_false, Bool.false_eq_true, Nat.add_zero, Nat.zero_add, ne_eq, not_false_eq_true, not_true_eq_false, Nat.not_lt_zero, Nat.add_left_cancel_iff, Nat.add_right_cancel_iff, eq_self, upd_s, pk_sub, nI_pm, Nat.add_sub_cancel, List.length_cons, List.length_nil, Nat.add_eq_zero_iff, Nat.succ_ne_zero, and_false, false_and, l14, l18, l21, l23, l24, l26, l28, l29, l34, l35, l36, l41, l42, l43, l45, l47, l48, l49, l50, l51, l52, l57, l58, l59, l62, l63, l64, l96, l97, l98, l101, l102, l103, l104, l105, l106, l107, l108, l109, l110, l111, l112, l113, l114, l115, l116, l117, l118, l119, l121, l122, l127, l255, l700, l1320, l1000000, Bool.toNat_true]
            refine wp_B (x_hear (hT.q qx3) ho hy hD (by rw [qx3.2.1 14 (by decide)]; exact hY) hlt (by omega)) ?_
            rintro w4 ⟨f1, f2⟩
            exact hkk2 hl2 _ ⟨w4, rfl, qx3.trans f1, fun d hd m hm => by rw [show 61 * p + (h + 1) = 61 * p + h + 1 by omega, eG_y hg, f2 d hd m hm, e3, hn2 d hd m hm]⟩
      · obtain rfl : h = 61 := by omega
        simp (disch := omega) only [xB_s, xB2_s, xGet_s, xPut_s, xAld_s, xAst_s, xIf_t, xBool_s, l0, l1, l2, l3, l4, l5, l6, l7, l8, l9, l10, l11, l12, l13, l15, l16, l17, l19, l20, l25, l27, l30, l31, l32, l33, l39, l40, l60, l61, l99, l100, l120, l256, l999, l1999, l99999, lm, nI_add, pk_mul, nI_leI, nI_ltI, nI_eq, wuS_1, wuS_2, wuA_1, wuA_21, wuA_22, nI_m1, m1_nI, nIlt_m1, m1lt_nI, Nat.reduceEqDiff, Nat.reduceAdd, Nat.reduceMul, Nat.reduceSub, Nat.reduceLT, Nat.reduceLeDiff, reduceIte, if_true, if_false, Bool.false_eq_true, Nat.add_zero, Nat.zero_add, ne_eq, not_false_eq_true, not_true_eq_false, Nat.not_lt_zero, Nat.add_left_cancel_iff, Nat.add_right_cancel_iff, eq_self, upd_s, pk_sub, nI_pm, Nat.add_sub_cancel, List.length_cons, List.length_nil, Nat.add_eq_zero_iff, Nat.succ_ne_zero, and_false, false_and, l14, l18, l21, l23, l24, l26, l28, l29, l34, l35, l36, l41, l42, l43, l45, l47, l48, l49, l50, l51, l52, l57, l58, l59, l62, l63, l64, l96, l97, l98, l101, l102, l103, l104, l105, l106, l107, l108, l109, l110, l111, l112, l113, l114, l115, l116, l117, l118, l119, l121, l122, l127, l255, l700, l1320, l1000000]
        exact hkk hlt _ ⟨w2, rfl, qx2, fun d hd m hm => by rw [show 61 * (p + 1) = 61 * p + 61 by omega]; exact hn2 d hd m hm⟩
    · obtain rfl : p = tP t := by omega
      simp (disch := omega) only [xB_s, xB2_s, xGet_s, xPut_s, xAld_s, xAst_s, xIf_t, xBool_s, l0, l1, l2, l3, l4, l5, l6, l7, l8, l9, l10, l11, l12, l13, l15, l16, l17, l19, l20, l25, l27, l30, l31, l32, l33, l39, l40, l60, l61, l99, l100, l120, l256, l999, l1999, l99999, lm, nI_add, pk_mul, nI_leI, nI_ltI, nI_eq, wuS_1, wuS_2, wuA_1, wuA_21, wuA_22, nI_m1, m1_nI, nIlt_m1, m1lt_nI, Nat.reduceEqDiff, Nat.reduceAdd, Nat.reduceMul, Nat.reduceSub, Nat.reduceLT, Nat.reduceLeDiff, reduceIte, if_true, if_false, Bool.false_eq_true, Nat.add_zero, Nat.zero_add, ne_eq, not_false_eq_true, not_true_eq_false, Nat.not_lt_zero, Nat.add_left_cancel_iff, Nat.add_right_cancel_iff, eq_self, upd_s, pk_sub, nI_pm, Nat.add_sub_cancel, List.length_cons, List.length_nil, Nat.add_eq_zero_iff, Nat.succ_ne_zero, and_false, false_and, l14, l18, l21, l23, l24, l26, l28, l29, l34, l35, l36, l41, l42, l43, l45, l47, l48, l49, l50, l51, l52, l57, l58, l59, l62, l63, l64, l96, l97, l98, l101, l102, l103, l104, l105, l106, l107, l108, l109, l110, l111, l112, l113, l114, l115, l116, l117, l118, l119, l121, l122, l127, l255, l700, l1320, l1000000, r9, (hT.q qx).1.1, Nat.le_refl]
      exact hk w' qx hn
  · unfold hb
    rw [hz _ (by omega)]
    show Nat.testBit 0 _ = false
    exact Nat.zero_testBit _
/-- the values of some -/
def inI (v : Nat → Nat) (m : Nat) : Nat → Bool
  | 0 => false
  | n + 1 => inI v m n || decide (m = v n)
def nwB (v : Nat → Nat) (a : Nat) : Nat → Bool
  | 0 => true
  | b + 1 => nwB v a b && decide (v a ≠ v b)
theorem nwB_in {v : Nat → Nat} {a : Nat} : ∀ b, nwB v a b = !inI v (v a) b
  | 0 => rfl
  | b + 1 => by
    show (nwB v a b && _) = !(inI v (v a) b || _)
    rw [nwB_in b]
    by_cases e : v a = v b
    · rw [decide_eq_true e, decide_eq_false (fun z => z e)]; simp
    · rw [decide_eq_false e, decide_eq_true e]; simp
theorem inI_iff {v : Nat → Nat} {m : Nat} : ∀ {n : Nat}, inI v m n = true ↔ ∃ j, j < n ∧ v j = m
  | 0 => ⟨fun h => Bool.noConfusion h, fun ⟨j, h, _⟩ => absurd h (Nat.not_lt_zero j)⟩
  | n + 1 => by
    show (inI v m n || _) = true ↔ _
    rw [Bool.or_eq_true, inI_iff (n := n), decide_eq_true_eq]
    constructor
    · rintro (⟨j, h1, h2⟩ | h)
      · exact ⟨j, by omega, h2⟩
      · exact ⟨n, by omega, h.symm⟩
    · rintro ⟨j, h1, h2⟩
      by_cases e : j = n
      · rw [e] at h2; exact Or.inr h2.symm
      · exact Or.inl ⟨j, by omega, h2⟩
theorem dc_eq {v : Nat → Nat} {N : Nat} : ∀ {n : Nat}, (∀ j, j < n → v j < N) → cN (fun a => nwB v a a) n = cN (fun m => inI v m n) N
  | 0, _ => by
    rw [cN_cong (p := fun m => inI v m 0) (q := fun _ => false) (fun _ _ => rfl)]
    have : ∀ n, cN (fun _ => false) n = 0 := fun n => by
      induction n with
      | zero => rfl
      | succ n ih => rw [cN_n rfl, ih]
    rw [this]; rfl
  | n + 1, h => by
    have ih := dc_eq (v := v) (N := N) (n := n) (fun j hj => h j (by omega))
    cases hn : nwB v n n with
    | true =>
      rw [cN_y (p := fun a => nwB v a a) hn, ih, cN_ins (p := fun m => inI v m n) (q := fun m => inI v m (n + 1)) (l := v n) (h n (by omega))]
      · rw [nwB_in] at hn
        cases z : inI v (v n) n with
        | false => rfl
        | true => rw [z] at hn; exact Bool.noConfusion hn
      · show (_ || decide (v n = v n)) = true
        simp
      · intro k _ hk
        show (_ || decide (k = v n)) = _
        rw [decide_eq_false hk, Bool.or_false]
    | false =>
      rw [cN_n (p := fun a => nwB v a a) hn, ih]
      refine cN_cong (fun k _ => ?_)
      show inI v k n = (inI v k n || decide (k = v n))
      by_cases e : k = v n
      · rw [nwB_in] at hn
        subst e
        cases z : inI v (v n) n with
        | true => rfl
        | false => rw [z] at hn; exact Bool.noConfusion hn
      · rw [decide_eq_false e, Bool.or_false]
theorem inI_cong {v u : Nat → Nat} {m : Nat} : ∀ {n : Nat}, (∀ j, j < n → v j = u j) → inI v m n = inI u m n
  | 0, _ => rfl
  | n + 1, h => by
    show (inI v m n || _) = (inI u m n || _)
    rw [inI_cong (n := n) (fun j hj => h j (by omega)), h n (by omega)]
theorem m_nextL {t : Tn} {y : Yw} {s : Sn} {o : wO} {wx w : wS} {a : Int32} {ke : Int32 → Int32 → wS → Option (Int32 × wS)} {Q : Int32 × wS → Prop} (h : PS t y s o wx w) (h0 : w.1 0 = nI 0) (hk : ∀ w' n (v : Nat → Nat → Nat), QM w w' → w'.1 0 = nI 0 → n ≤ 488 → (∀ j, j < n → ∀ d, d < tD t → w'.2.1 27 (6 * j + d) = nI (v d j)) → (∀ d j, j < n → v d j ≤ 120) → (∀ d m, d < tD t → inI (v d) m n = eG t y s d m (61 * tP t)) → wpO (ke a (nI n) w') Q) : wpO (P_X10_next_20 ke 5000 a (nI 0) (nI 0) w) Q := by
  obtain ⟨hq, hs, hSx, hS⟩ := h
  have b1 := hq.1.1.1
  have b2 := hq.1.1.2.1
  unfold P_X10_next_20
  refine wp_for (61 * tP t) (fun g σ => ∃ (w' : wS) (n : Nat) (v : Nat → Nat → Nat), σ = (a, nI n, nI g, w') ∧ QM w w' ∧ w'.1 0 = nI 0 ∧ n ≤ g ∧ (∀ j, j < n → ∀ d, d < tD t → w'.2.1 27 (6 * j + d) = nI (v d j)) ∧ (∀ d j, j < n → v d j ≤ 120) ∧ (∀ d m, d < tD t → inI (v d) m n = eG t y s d m g)) ?_ (Nat.zero_le _) (by omega) ⟨w, 0, fun _ _ => 0, rfl, QM.refl, h0, Nat.le_refl _, fun j hj => absurd hj (Nat.not_lt_zero j), fun _ j hj => absurd hj (Nat.not_lt_zero j), fun _ _ _ => rfl⟩
  rintro g _ kk hi ⟨w', n, v, rfl, qm, z0, hn, hv, hle, hin⟩ hkk
  show wpO (B_X10_next_20 (fun x1 x2 x3 w => kk (x1, x2, x3, w)) _ a (nI n) (nI g) w') _
  have hq' := hq.q QX.refl qm
  have T' := hq'.2.2.1
  unfold B_X10_next_20 J_X10_next_82
  by_cases hlt : g < 61 * tP t
  · simp (disch := omega) only [xB_s, xB2_s, xGet_s, xPut_s, xAld_s, xAst_s, xIf_t, xBool_s, l0, l1, l2, l3, l4, l5, l6, l7, l8, l9, l10, l11, l12, l13, l15, l16, l17, l19, l20, l25, l27, l30, l31, l32, l33, l39, l40, l60, l61, l99, l100, l120, l256, l999, l1999, l99999, lm, nI_add, pk_mul, nI_leI, nI_ltI, nI_eq, wuS_1, wuS_2, wuA_1, wuA_21, wuA_22, nI_m1, m1_nI, nIlt_m1, m1lt_nI, Nat.reduceEqDiff, Nat.reduceAdd, Nat.reduceMul, Nat.reduceSub, Nat.reduceLT, Nat.reduceLeDiff, reduceIte, if_true, if_false, Bool.false_eq_true, Nat.add_zero, Nat.zero_add, ne_eq, not_false_eq_true, not_true_eq_false, Nat.not_lt_zero, Nat.add_left_cancel_iff, Nat.add_right_cancel_iff, eq_self, upd_s, pk_sub, nI_pm, Nat.add_sub_cancel, List.length_cons, List.length_nil, Nat.add_eq_zero_iff, Nat.succ_ne_zero, and_false, false_and, l14, l18, l21, l23, l24, l26, l28, l29, l34, l35, l36, l41, l42, l43, l45, l47, l48, l49, l50, l51, l52, l57, l58, l59, l62, l63, l64, l96, l97, l98, l101, l102, l103, l104, l105, l106, l107, l108, l109, l110, l111, l112, l113, l114, l115, l116, l117, l118, l119, l121, l122, l127, l255, l700, l1320, l1000000, T'.1, show (61 * tP t ≤ g) = False from eq_false (by omega)]
    refine wp_B2 (m_isGuess hq' hs (hS.q qm) z0 hlt) ?_
    rintro u w2 ⟨c1, c2, c3, c4, c5⟩
    have c3 : u = nI (gU t y s g).toNat := c3
    have c5 : w2.2.1 27 = w'.2.1 27 := c5
    have c2 : w2.1 0 = nI 0 := c2
    have c1 : QM w' w2 := c1
    cases hg : gU t y s g with
    | false =>
      rw [c3, hg]
      simp (disch := omega) only [xB_s, xB2_s, xGet_s, xPut_s, xAld_s, xAst_s, xIf_t, xBool_s, l0, l1, l2, l3, l4, l5, l6, l7, l8, l9, l10, l11, l12, l13, l15, l16, l17, l19, l20, l25, l27, l30, l31, l32, l33, l39, l40, l60, l61, l99, l100, l120, l256, l999, l1999, l99999, lm, nI_add, pk_mul, nI_leI, nI_ltI, nI_eq, wuS_1, wuS_2, wuA_1, wuA_21, wuA_22, nI_m1, m1_nI, nIlt_m1, m1lt_nI, Nat.reduceEqDiff, Nat.reduceAdd, Nat.reduceMul, Nat.reduceSub, Nat.reduceLT, Nat.reduceLeDiff, reduceIte, if_true, if_false, Bool.false_eq_true, Nat.add_zero, Nat.zero_add, ne_eq, not_false_eq_true, not_true_eq_false, Nat.not_lt_zero, Nat.add_left_cancel_iff, Nat.add_right_cancel_iff, eq_self, upd_s, pk_sub, nI_pm, Nat.add_sub_cancel, List.length_cons, List.length_nil, Nat.add_eq_zero_iff, Nat.succ_ne_zero, and_false, false_and, l14, l18, l21, l23, l24, l26, l28, l29, l34, l35, l36, l41, l42, l43, l45, l47, l48, l49, l50, l51, l52, l57, l58, l59, l62, l63, l64, l96, l97, l98, l101, l102, l103, l104, l105, l106, l107, l108, l109, l110, l111, l112, l113, l114, l115, l116, l117, l118, l119, l121, l122, l127, l255, l700, l1320, l1000000, Bool.toNat_false]
      exact hkk hlt _ ⟨w2, n, v, rfl, qm.trans c1, c2, by omega, fun j hj d hd => by rw [c5]; exact hv j hj d hd, hle, fun d m hd => by rw [eG_n hg]; exact hin d m hd⟩
    | true =>
      have c4 : ∀ d, d < tD t → w2.2.1 26 d = nI (bvG t y g d) := c4 hg
      rw [c3, hg]
      simp (disch := omega) only [xB_s, xB2_s, xGet_s, xPut_s, xAld_s, xAst_s, xIf_t, xBool_s, l0, l1, l2, l3, l4, l5, l6, l7, l8, l9, l10, l11, l12, l13, l15, l16, l17, l19, l20, l25, l27, l30, l31, l32, l33, l39, l40, l60, l61, l99, l100, l120, l256, l999, l1999, l99999, lm, nI_add, pk_mul, nI_leI, nI_ltI, nI_eq, wuS_1, wuS_2, wuA_1, wuA_21, wuA_22, nI_m1, m1_nI, nIlt_m1, m1lt_nI, Nat.reduceEqDiff, Nat.reduceAdd, Nat.reduceMul, Nat.reduceSub, Nat.reduceLT, Nat.reduceLeDiff, reduceIte, if_true, if_false, Bool.false_eq_true, Nat.add_zero, Nat.zero_add, ne_eq, not_false_eq_true, not_true_eq_false, Nat.not_lt_zero, Nat.add_left_cancel_iff, Nat.add_right_cancel_iff, eq_self, upd_s, pk_sub, nI_pm, Nat.add_sub_cancel, List.length_cons, List.length_nil, Nat.add_eq_zero_iff, Nat.succ_ne_zero, and_false, false_and, l14, l18, l21, l23, l24, l26, l28, l29, l34, l35, l36, l41, l42, l43, l45, l47, l48, l49, l50, l51, l52, l57, l58, l59, l62, l63, l64, l96, l97, l98, l101, l102, l103, l104, l105, l106, l107, l108, l109, l110, l111, l112, l113, l114, l115, l116, l117, l118, l119, l121, l122, l127, l255, l700, l1320, l1000000, Bool.toNat_true]
      unfold P_X10_next_45
      refine wp_for (tD t) (fun i σ => ∃ w3 : wS, σ = (a, nI n, nI g, nI i, w3) ∧ QM w w3 ∧ w3.1 0 = nI 0 ∧ w3.1 2 = nI (tD t) ∧ w3.2.1 26 = w2.2.1 26 ∧ (∀ j, j < n → ∀ d, d < tD t → w3.2.1 27 (6 * j + d) = nI (v d j)) ∧ ∀ d, d < i → w3.2.1 27 (6 * n + d) = nI (bvG t y g d)) ?_ (Nat.zero_le _) (by omega) ⟨w2, rfl, qm.trans c1, c2, (c1.1.1 2 (by decide)).trans T'.2.1, rfl, fun j hj d hd => by rw [c5]; exact hv j hj d hd, fun d hd => absurd hd (Nat.not_lt_zero d)⟩
      rintro i _ kk2 hi2 ⟨w3, rfl, qm3, z3, d3, e26, h27, hnw⟩ hkk2
      show wpO (B_X10_next_45 (fun x1 x2 x3 x4 w => kk2 (x1, x2, x3, x4, w)) _ a (nI n) (nI g) (nI i) w3) _
      unfold B_X10_next_45
      by_cases hl2 : i < tD t
      · have g26 := c4 i hl2
        rw [← e26] at g26
        simp (disch := omega) only [xB_s, xB2_s, xGet_s, xPut_s, xAld_s, xAst_s, xIf_t, xBool_s, l0, l1, l2, l3, l4, l5, l6, l7, l8, l9, l10, l11, l12, l13, l15, l16, l17, l19, l20, l25, l27, l30, l31, l32, l33, l39, l40, l60, l61, l99, l100, l120, l256, l999, l1999, l99999, lm, nI_add, pk_mul, nI_leI, nI_ltI, nI_eq, wuS_1, wuS_2, wuA_1, wuA_21, wuA_22, nI_m1, m1_nI, nIlt_m1, m1lt_nI, Nat.reduceEqDiff, Nat.reduceAdd, Nat.reduceMul, Nat.reduceSub, Nat.reduceLT, Nat.reduceLeDiff, reduceIte, if_true, if_false, Bool.false_eq_true, Nat.add_zero, Nat.zero_add, ne_eq, not_false_eq_true, not_true_eq_false, Nat.not_lt_zero, Nat.add_left_cancel_iff, Nat.add_right_cancel_iff, eq_self, upd_s, pk_sub, nI_pm, Nat.add_sub_cancel, List.length_cons, List.length_nil, Nat.add_eq_zero_iff, Nat.succ_ne_zero, and_false, false_and, l14, l18, l21, l23, l24, l26, l28, l29, l34, l35, l36, l41, l42, l43, l45, l47, l48, l49, l50, l51, l52, l57, l58, l59, l62, l63, l64, l96, l97, l98, l101, l102, l103, l104, l105, l106, l107, l108, l109, l110, l111, l112, l113, l114, l115, l116, l117, l118, l119, l121, l122, l127, l255, l700, l1320, l1000000, d3, show (tD t ≤ i) = False from eq_false (by omega), g26]
        refine hkk2 hl2 _ ⟨_, rfl, qm3.A (by decide) (by decide), z3, d3, ?_, fun j hj d hd => ?_, fun d hd => ?_⟩
        · rw [wuA_21, if_neg (by decide)]; exact e26
        · rw [wuA_21, if_pos rfl, upd_s, if_neg (by omega)]; exact h27 j hj d hd
        · rw [wuA_21, if_pos rfl, upd_s]
          by_cases e : d = i
          · rw [if_pos (by omega), e]
          · rw [if_neg (by omega)]; exact hnw d (by omega)
      · obtain rfl : i = tD t := by omega
        simp (disch := omega) only [xB_s, xB2_s, xGet_s, xPut_s, xAld_s, xAst_s, xIf_t, xBool_s, l0, l1, l2, l3, l4, l5, l6, l7, l8, l9, l10, l11, l12, l13, l15, l16, l17, l19, l20, l25, l27, l30, l31, l32, l33, l39, l40, l60, l61, l99, l100, l120, l256, l999, l1999, l99999, lm, nI_add, pk_mul, nI_leI, nI_ltI, nI_eq, wuS_1, wuS_2, wuA_1, wuA_21, wuA_22, nI_m1, m1_nI, nIlt_m1, m1lt_nI, Nat.reduceEqDiff, Nat.reduceAdd, Nat.reduceMul, Nat.reduceSub, Nat.reduceLT, Nat.reduceLeDiff, reduceIte, if_true, if_false, Bool.false_eq_true, Nat.add_zero, Nat.zero_add, ne_eq, not_false_eq_true, not_true_eq_false, Nat.not_lt_zero, Nat.add_left_cancel_iff, Nat.add_right_cancel_iff, eq_self, upd_s, pk_sub, nI_pm, Nat.add_sub_cancel, List.length_cons, List.length_nil, Nat.add_eq_zero_iff, Nat.succ_ne_zero, and_false, false_and, l14, l18, l21, l23, l24, l26, l28, l29, l34, l35, l36, l41, l42, l43, l45, l47, l48, l49, l50, l51, l52, l57, l58, l59, l62, l63, l64, l96, l97, l98, l101, l102, l103, l104, l105, l106, l107, l108, l109, l110, l111, l112, l113, l114, l115, l116, l117, l118, l119, l121, l122, l127, l255, l700, l1320, l1000000, d3, Nat.le_refl]
        refine hkk hlt _ ⟨w3, n + 1, fun d j => if j = n then bvG t y g d else v d j, rfl, qm3, z3, by omega, fun j hj d hd => ?_, fun d j hj => ?_, fun d m hd => ?_⟩
        · show _ = nI (if j = n then bvG t y g d else v d j)
          by_cases e : j = n
          · rw [if_pos e, e]; exact hnw d hd
          · rw [if_neg e]; exact h27 j (by omega) d hd
        · show (if j = n then bvG t y g d else v d j) ≤ 120
          by_cases e : j = n
          · rw [if_pos e]; exact behS_le _ _ _ _
          · rw [if_neg e]; exact hle d j (by omega)
        · show (inI (fun j => if j = n then bvG t y g d else v d j) m n || decide (m = if n = n then bvG t y g d else v d n)) = _
          rw [eG_y hg, if_pos rfl, ← hin d m hd, inI_cong (u := v d) (fun j hj => if_neg (by omega))]
  · obtain rfl : g = 61 * tP t := by omega
    simp (disch := omega) only [xB_s, xB2_s, xGet_s, xPut_s, xAld_s, xAst_s, xIf_t, xBool_s, l0, l1, l2, l3, l4, l5, l6, l7, l8, l9, l10, l11, l12, l13, l15, l16, l17, l19, l20, l25, l27, l30, l31, l32, l33, l39, l40, l60, l61, l99, l100, l120, l256, l999, l1999, l99999, lm, nI_add, pk_mul, nI_leI, nI_ltI, nI_eq, wuS_1, wuS_2, wuA_1, wuA_21, wuA_22, nI_m1, m1_nI, nIlt_m1, m1lt_nI, Nat.reduceEqDiff, Nat.reduceAdd, Nat.reduceMul, Nat.reduceSub, Nat.reduceLT, Nat.reduceLeDiff, reduceIte, if_true, if_false, Bool.false_eq_true, Nat.add_zero, Nat.zero_add, ne_eq, not_false_eq_true, not_true_eq_false, Nat.not_lt_zero, Nat.add_left_cancel_iff, Nat.add_right_cancel_iff, eq_self, upd_s, pk_sub, nI_pm, Nat.add_sub_cancel, List.length_cons, List.length_nil, Nat.add_eq_zero_iff, Nat.succ_ne_zero, and_false, false_and, l14, l18, l21, l23, l24, l26, l28, l29, l34, l35, l36, l41, l42, l43, l45, l47, l48, l49, l50, l51, l52, l57, l58, l59, l62, l63, l64, l96, l97, l98, l101, l102, l103, l104, l105, l106, l107, l108, l109, l110, l111, l112, l113, l114, l115, l116, l117, l118, l119, l121, l122, l127, l255, l700, l1320, l1000000, T'.1, Nat.le_refl]
    exact hk w' n v qm z0 (by omega) hv hle hin
end
