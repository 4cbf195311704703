section
/-! ===== rota, the reference; the question ===== -/
def mLs (t : Tn) (y : Yw) (A : Nat → Int32) (d T0 : Nat) : Prop := (∀ e, d < e → e < tD t → ∀ T, T < 2 ^ tP t → A (256 * e + T) = nI (rM t y (tD t - e) T)) ∧ ∀ T, T < T0 → A (256 * d + T) = nI (rM t y (tD t - d) T)
theorem TM.a {t : Tn} {w w' : wS} (h : TM t w) (f : Fr [] [24] w w') : TM t w' := h.fr f (by decide) (by decide)
theorem m_leastOf {t : Tn} {y : Yw} {w : wS} {d T : Nat} (TT : TM t w) (ho : tOk t) (hd : d ≤ tD t) (hT : T < 256) (h : d < tD t → w.2.1 24 (256 * d + T) = nI (rM t y (tD t - d) T)) : L_X10_leastOf (nI d) (nI T) w = some (nI (rM t y (tD t - d) T), w) := by
  have b2 := ho.2.1
  unfold L_X10_leastOf J_X10_leastOf_24
  by_cases e : d = tD t
  · simp (disch := omega) only [xB_s, xB2_s, xGet_s, xPut_s, xAld_s, xAst_s, xIf_t, xBool_s, l0, l1, l2, l3, l4, l5, l6, l7, l8, l9, l10, l11, l12, l13, l15, l16, l17, l19, l20, l25, l27, l30, l31, l32, l33, l39, l40, l60, l61, l99, l100, l120, l256, l999, l1999, l99999, lm, nI_add, pk_mul, nI_leI, nI_ltI, nI_eq, wuS_1, wuS_2, wuA_1, wuA_21, wuA_22, nI_m1, m1_nI, nIlt_m1, m1lt_nI, Nat.reduceEqDiff, Nat.reduceAdd, Nat.reduceMul, Nat.reduceSub, Nat.reduceLT, Nat.reduceLeDiff, reduceIte, if_true, if_false, Bool.false_eq_true, Nat.add_zero, Nat.zero_add, ne_eq, not_false_eq_true, not_true_eq_false, Nat.not_lt_zero, Nat.add_left_cancel_iff, Nat.add_right_cancel_iff, eq_self, upd_s, pk_sub, nI_pm, Nat.add_sub_cancel, List.length_cons, List.length_nil, Nat.add_eq_zero_iff, Nat.succ_ne_zero, and_false, false_and, l14, l18, l21, l23, l24, l26, l28, l29, l34, l35, l36, l41, l42, l43, l45, l47, l48, l49, l50, l51, l52, l57, l58, l59, l62, l63, l64, l96, l97, l98, l101, l102, l103, l104, l105, l106, l107, l108, l109, l110, l111, l112, l113, l114, l115, l116, l117, l118, l119, l121, l122, l127, l255, l700, l1320, l1000000, TT.2.1, e]
    rw [Nat.sub_self]; rfl
  · simp (disch := omega) only [xB_s, xB2_s, xGet_s, xPut_s, xAld_s, xAst_s, xIf_t, xBool_s, l0, l1, l2, l3, l4, l5, l6, l7, l8, l9, l10, l11, l12, l13, l15, l16, l17, l19, l20, l25, l27, l30, l31, l32, l33, l39, l40, l60, l61, l99, l100, l120, l256, l999, l1999, l99999, lm, nI_add, pk_mul, nI_leI, nI_ltI, nI_eq, wuS_1, wuS_2, wuA_1, wuA_21, wuA_22, nI_m1, m1_nI, nIlt_m1, m1lt_nI, Nat.reduceEqDiff, Nat.reduceAdd, Nat.reduceMul, Nat.reduceSub, Nat.reduceLT, Nat.reduceLeDiff, reduceIte, if_true, if_false, Bool.false_eq_true, Nat.add_zero, Nat.zero_add, ne_eq, not_false_eq_true, not_true_eq_false, Nat.not_lt_zero, Nat.add_left_cancel_iff, Nat.add_right_cancel_iff, eq_self, upd_s, pk_sub, nI_pm, Nat.add_sub_cancel, List.length_cons, List.length_nil, Nat.add_eq_zero_iff, Nat.succ_ne_zero, and_false, false_and, l14, l18, l21, l23, l24, l26, l28, l29, l34, l35, l36, l41, l42, l43, l45, l47, l48, l49, l50, l51, l52, l57, l58, l59, l62, l63, l64, l96, l97, l98, l101, l102, l103, l104, l105, l106, l107, l108, l109, l110, l111, l112, l113, l114, l115, l116, l117, l118, l119, l121, l122, l127, l255, l700, l1320, l1000000, TT.2.1, e, h (by omega)]
theorem m_fillL {t : Tn} {y : Yw} {w : wS} {v : Int32} {ke : Int32 → wS → Option (Int32 × wS)} {Q : Int32 × wS → Prop} (hT : TM t w) (ho : tOk t) (hy : yOk t y) (hY : YM y (w.2.1 16) 0) (hk : ∀ w', Fr [] [24] w w' → (∀ e, e < tD t → ∀ T, T < 2 ^ tP t → w'.2.1 24 (256 * e + T) = nI (rM t y (tD t - e) T)) → wpO (ke v w') Q) : wpO (P_X10_rota_40 ke 5000 v (nI (tD t) - nI 1) w) Q := by
  have b1 := ho.1
  have b2 := ho.2.1
  have hP := tk_P b1
  have hP1 : 1 ≤ 2 ^ tP t := Nat.one_le_two_pow
  unfold P_X10_rota_40
  refine wp_for (tD t) (fun i s => ∃ w' : wS, Fr [] [24] w w' ∧ (∀ e, tD t - i ≤ e → e < tD t → ∀ T, T < 2 ^ tP t → w'.2.1 24 (256 * e + T) = nI (rM t y (tD t - e) T)) ∧ ((i < tD t ∧ s = (v, nI (tD t - 1 - i), w')) ∨ (i = tD t ∧ s = (v, mI, w')))) ?_ (i := 0) (by omega) (by omega) ⟨w, Fr.refl, fun e h1 h2 => by omega, ?_⟩
  · rintro i _ kk hi ⟨w', F, hL, hs⟩ hkk
    rcases hs with ⟨hlt, rfl⟩ | ⟨hlt, rfl⟩
    · obtain ⟨d, hde⟩ : ∃ d, d = tD t - 1 - i := ⟨_, rfl⟩
      rw [← hde]
      show wpO (B_X10_rota_40 (fun x1 x2 w => kk (x1, x2, w)) _ v (nI d) w') _
      unfold B_X10_rota_40
      simp (disch := omega) only [xB_s, xB2_s, xGet_s, xPut_s, xAld_s, xAst_s, xIf_t, xBool_s, l0, l1, l2, l3, l4, l5, l6, l7, l8, l9, l10, l11, l12, l13, l15, l16, l17, l19, l20, l25, l27, l30, l31, l32, l33, l39, l40, l60, l61, l99, l100, l120, l256, l999, l1999, l99999, lm, nI_add, pk_mul, nI_leI, nI_ltI, nI_eq, wuS_1, wuS_2, wuA_1, wuA_21, wuA_22, nI_m1, m1_nI, nIlt_m1, m1lt_nI, Nat.reduceEqDiff, Nat.reduceAdd, Nat.reduceMul, Nat.reduceSub, Nat.reduceLT, Nat.reduceLeDiff, reduceIte, if_true, if_false, Bool.false_eq_true, Nat.add_zero, Nat.zero_add, ne_eq, not_false_eq_true, not_true_eq_false, Nat.not_lt_zero, Nat.add_left_cancel_iff, Nat.add_right_cancel_iff, eq_self, upd_s, pk_sub, nI_pm, Nat.add_sub_cancel, List.length_cons, List.length_nil, Nat.add_eq_zero_iff, Nat.succ_ne_zero, and_false, false_and, l14, l18, l21, l23, l24, l26, l28, l29, l34, l35, l36, l41, l42, l43, l45, l47, l48, l49, l50, l51, l52, l57, l58, l59, l62, l63, l64, l96, l97, l98, l101, l102, l103, l104, l105, l106, l107, l108, l109, l110, l111, l112, l113, l114, l115, l116, l117, l118, l119, l121, l122, l127, l255, l700, l1320, l1000000]
      unfold P_X10_rota_46
      refine wp_for (2 ^ tP t) (fun T s => ∃ w2 : wS, Fr [] [24] w w2 ∧ mLs t y (w2.2.1 24) d T ∧ s = (v, nI d, nI T, w2)) ?_ (i := 0) (by omega) (by omega) ⟨w', F, ⟨fun e h1 h2 => hL e (by omega) h2, fun T h => by omega⟩, rfl⟩
      rintro T _ kk2 hTi ⟨w2, F2, hM, rfl⟩ hkk2
      show wpO (B_X10_rota_46 (fun x1 x2 x3 w => kk2 (x1, x2, x3, w)) _ v (nI d) (nI T) w2) _
      unfold B_X10_rota_46
      have T2 := hT.a F2
      have hY2 : YM y (w2.2.1 16) 0 := by rw [F2.2.1 16 (by decide)]; exact hY
      by_cases hTl : T < 2 ^ tP t
      · simp (disch := omega) only [xB_s, xB2_s, xGet_s, xPut_s, xAld_s, xAst_s, xIf_t, xBool_s, l0, l1, l2, l3, l4, l5, l6, l7, l8, l9, l10, l11, l12, l13, l15, l16, l17, l19, l20, l25, l27, l30, l31, l32, l33, l39, l40, l60, l61, l99, l100, l120, l256, l999, l1999, l99999, lm, nI_add, pk_mul, nI_leI, nI_ltI, nI_eq, wuS_1, wuS_2, wuA_1, wuA_21, wuA_22, nI_m1, m1_nI, nIlt_m1, m1lt_nI, Nat.reduceEqDiff, Nat.reduceAdd, Nat.reduceMul, Nat.reduceSub, Nat.reduceLT, Nat.reduceLeDiff, reduceIte, if_true, if_false, Bool.false_eq_true, Nat.add_zero, Nat.zero_add, ne_eq, not_false_eq_true, not_true_eq_false, Nat.not_lt_zero, Nat.add_left_cancel_iff, Nat.add_right_cancel_iff, eq_self, upd_s, pk_sub, nI_pm, Nat.add_sub_cancel, List.length_cons, List.length_nil, Nat.add_eq_zero_iff, Nat.succ_ne_zero, and_false, false_and, l14, l18, l21, l23, l24, l26, l28, l29, l34, l35, l36, l41, l42, l43, l45, l47, l48, l49, l50, l51, l52, l57, l58, l59, l62, l63, l64, l96, l97, l98, l101, l102, l103, l104, l105, l106, l107, l108, l109, l110, l111, l112, l113, l114, l115, l116, l117, l118, l119, l121, l122, l127, l255, l700, l1320, l1000000, T2.1, tk_shl (tP t) (by omega), show (2 ^ tP t ≤ T) = False from eq_false (by omega)]
        unfold P_X10_rota_64
        obtain ⟨k, hk1⟩ : ∃ k, tD t - d = k + 1 := ⟨tD t - d - 1, by omega⟩
        have hk2 : tD t - (k + 1) = d := by omega
        refine wp_for (tP t) (fun p s => s = (v, nI d, nI T, nI (vI (myR t y T) (fun p => way t y p (tD t - (k + 1)) + rM t y k (T ||| 2 ^ p)) 99999 p), nI p, w2)) ?_ (i := 0) (by omega) (by omega) rfl
        rintro p _ kk3 hp rfl hkk3
        show wpO (B_X10_rota_64 (fun x1 x2 x3 x4 x5 w => kk3 (x1, x2, x3, x4, x5, w)) _ v (nI d) (nI T) (nI _) (nI p) w2) _
        unfold B_X10_rota_64 J_X10_rota_112
        by_cases hpl : p < tP t
        · have c1 := m_canDo (T := T) T2 ho hY2 hpl
          have c2 := m_wayOf (b := 0) (d := d) T2 hY2 ho hy (by omega) hpl (by omega)
          have hw := (way_le ho y p d).1
          have hv := vI_le (may := myR t y T) (g := fun p => way t y p (tD t - (k + 1)) + rM t y k (T ||| 2 ^ p)) (F := 99999) p
          simp (disch := omega) only [xB_s, xB2_s, xGet_s, xPut_s, xAld_s, xAst_s, xIf_t, xBool_s, l0, l1, l2, l3, l4, l5, l6, l7, l8, l9, l10, l11, l12, l13, l15, l16, l17, l19, l20, l25, l27, l30, l31, l32, l33, l39, l40, l60, l61, l99, l100, l120, l256, l999, l1999, l99999, lm, nI_add, pk_mul, nI_leI, nI_ltI, nI_eq, wuS_1, wuS_2, wuA_1, wuA_21, wuA_22, nI_m1, m1_nI, nIlt_m1, m1lt_nI, Nat.reduceEqDiff, Nat.reduceAdd, Nat.reduceMul, Nat.reduceSub, Nat.reduceLT, Nat.reduceLeDiff, reduceIte, if_true, if_false, Bool.false_eq_true, Nat.add_zero, Nat.zero_add, ne_eq, not_false_eq_true, not_true_eq_false, Nat.not_lt_zero, Nat.add_left_cancel_iff, Nat.add_right_cancel_iff, eq_self, upd_s, pk_sub, nI_pm, Nat.add_sub_cancel, List.length_cons, List.length_nil, Nat.add_eq_zero_iff, Nat.succ_ne_zero, and_false, false_and, l14, l18, l21, l23, l24, l26, l28, l29, l34, l35, l36, l41, l42, l43, l45, l47, l48, l49, l50, l51, l52, l57, l58, l59, l62, l63, l64, l96, l97, l98, l101, l102, l103, l104, l105, l106, l107, l108, l109, l110, l111, l112, l113, l114, l115, l116, l117, l118, l119, l121, l122, l127, l255, l700, l1320, l1000000, T2.1, show (tP t ≤ p) = False from eq_false (by omega), c1]
          cases hm : myR t y T p with
          | false =>
            simp (disch := omega) only [xB_s, xB2_s, xGet_s, xPut_s, xAld_s, xAst_s, xIf_t, xBool_s, l0, l1, l2, l3, l4, l5, l6, l7, l8, l9, l10, l11, l12, l13, l15, l16, l17, l19, l20, l25, l27, l30, l31, l32, l33, l39, l40, l60, l61, l99, l100, l120, l256, l999, l1999, l99999, lm, nI_add, pk_mul, nI_leI, nI_ltI, nI_eq, wuS_1, wuS_2, wuA_1, wuA_21, wuA_22, nI_m1, m1_nI, nIlt_m1, m1lt_nI, Nat.reduceEqDiff, Nat.reduceAdd, Nat.reduceMul, Nat.reduceSub, Nat.reduceLT, Nat.reduceLeDiff, reduceIte, if_true, if_false, Bool.false_eq_true, Nat.add_zero, Nat.zero_add, ne_eq, not_false_eq_true, not_true_eq_false, Nat.not_lt_zero, Nat.add_left_cancel_iff, Nat.add_right_cancel_iff, eq_self, upd_s, pk_sub, nI_pm, Nat.add_sub_cancel, List.length_cons, List.length_nil, Nat.add_eq_zero_iff, Nat.succ_ne_zero, and_false, false_and, l14, l18, l21, l23, l24, l26, l28, l29, l34, l35, l36, l41, l42, l43, l45, l47, l48, l49, l50, l51, l52, l57, l58, l59, l62, l63, l64, l96, l97, l98, l101, l102, l103, l104, l105, l106, l107, l108, l109, l110, l111, l112, l113, l114, l115, l116, l117, l118, l119, l121, l122, l127, l255, l700, l1320, l1000000, Bool.toNat_false]
            exact hkk3 hpl _ (by rw [vI_n hm])
          | true =>
            have g3 := tk_lt (tP t) (by omega) T hTl p hpl
            have g4 := m_leastOf (y := y) (d := d + 1) (T := T ||| 2 ^ p) T2 ho (by omega) (by omega) (fun h => hM.1 (d + 1) (by omega) h _ g3)
            rw [show tD t - (d + 1) = k by omega] at g4
            have g5 : rM t y k (T ||| 2 ^ p) ≤ 99999 := vR_le _ _
            have em := lesser_n (a := vI (myR t y T) (fun p => way t y p (tD t - (k + 1)) + rM t y k (T ||| 2 ^ p)) 99999 p) (b := way t y p d + rM t y k (T ||| 2 ^ p)) (by omega) (by omega)
            simp (disch := omega) only [xB_s, xB2_s, xGet_s, xPut_s, xAld_s, xAst_s, xIf_t, xBool_s, l0, l1, l2, l3, l4, l5, l6, l7, l8, l9, l10, l11, l12, l13, l15, l16, l17, l19, l20, l25, l27, l30, l31, l32, l33, l39, l40, l60, l61, l99, l100, l120, l256, l999, l1999, l99999, lm, nI_add, pk_mul, nI_leI, nI_ltI, nI_eq, wuS_1, wuS_2, wuA_1, wuA_21, wuA_22, nI_m1, m1_nI, nIlt_m1, m1lt_nI, Nat.reduceEqDiff, Nat.reduceAdd, Nat.reduceMul, Nat.reduceSub, Nat.reduceLT, Nat.reduceLeDiff, reduceIte, if_true, if_false, Bool.false_eq_true, Nat.add_zero, Nat.zero_add, ne_eq, not_false_eq_true, not_true_eq_false, Nat.not_lt_zero, Nat.add_left_cancel_iff, Nat.add_right_cancel_iff, eq_self, upd_s, pk_sub, nI_pm, Nat.add_sub_cancel, List.length_cons, List.length_nil, Nat.add_eq_zero_iff, Nat.succ_ne_zero, and_false, false_and, l14, l18, l21, l23, l24, l26, l28, l29, l34, l35, l36, l41, l42, l43, l45, l47, l48, l49, l50, l51, l52, l57, l58, l59, l62, l63, l64, l96, l97, l98, l101, l102, l103, l104, l105, l106, l107, l108, l109, l110, l111, l112, l113, l114, l115, l116, l117, l118, l119, l121, l122, l127, l255, l700, l1320, l1000000, Bool.toNat_true, c2, tk_or T (show T < 256 by omega) p (show p < 8 by omega), g4, em]
            exact hkk3 hpl _ (by rw [vI_y hm, hk2])
        · obtain rfl : p = tP t := by omega
          have hv := vI_le (may := myR t y T) (g := fun p => way t y p (tD t - (k + 1)) + rM t y k (T ||| 2 ^ p)) (F := 99999) (tP t)
          simp (disch := omega) only [xB_s, xB2_s, xGet_s, xPut_s, xAld_s, xAst_s, xIf_t, xBool_s, l0, l1, l2, l3, l4, l5, l6, l7, l8, l9, l10, l11, l12, l13, l15, l16, l17, l19, l20, l25, l27, l30, l31, l32, l33, l39, l40, l60, l61, l99, l100, l120, l256, l999, l1999, l99999, lm, nI_add, pk_mul, nI_leI, nI_ltI, nI_eq, wuS_1, wuS_2, wuA_1, wuA_21, wuA_22, nI_m1, m1_nI, nIlt_m1, m1lt_nI, Nat.reduceEqDiff, Nat.reduceAdd, Nat.reduceMul, Nat.reduceSub, Nat.reduceLT, Nat.reduceLeDiff, reduceIte, if_true, if_false, Bool.false_eq_true, Nat.add_zero, Nat.zero_add, ne_eq, not_false_eq_true, not_true_eq_false, Nat.not_lt_zero, Nat.add_left_cancel_iff, Nat.add_right_cancel_iff, eq_self, upd_s, pk_sub, nI_pm, Nat.add_sub_cancel, List.length_cons, List.length_nil, Nat.add_eq_zero_iff, Nat.succ_ne_zero, and_false, false_and, l14, l18, l21, l23, l24, l26, l28, l29, l34, l35, l36, l41, l42, l43, l45, l47, l48, l49, l50, l51, l52, l57, l58, l59, l62, l63, l64, l96, l97, l98, l101, l102, l103, l104, l105, l106, l107, l108, l109, l110, l111, l112, l113, l114, l115, l116, l117, l118, l119, l121, l122, l127, l255, l700, l1320, l1000000, T2.1, Nat.le_refl]
          refine hkk2 hTl _ ⟨_, F2.A (by decide), ⟨fun e h1 h2 T' hT' => ?_, fun T' hT' => ?_⟩, rfl⟩
          · rw [wuA_21, if_pos rfl, upd_s, if_neg (by omega)]
            exact hM.1 e h1 h2 T' hT'
          · rw [wuA_21, if_pos rfl, upd_s]
            by_cases e : T' = T
            · rw [if_pos (by omega), e, hk1]; rfl
            · rw [if_neg (by omega)]
              exact hM.2 T' (by omega)
      · obtain rfl : T = 2 ^ tP t := by omega
        simp (disch := omega) only [xB_s, xB2_s, xGet_s, xPut_s, xAld_s, xAst_s, xIf_t, xBool_s, l0, l1, l2, l3, l4, l5, l6, l7, l8, l9, l10, l11, l12, l13, l15, l16, l17, l19, l20, l25, l27, l30, l31, l32, l33, l39, l40, l60, l61, l99, l100, l120, l256, l999, l1999, l99999, lm, nI_add, pk_mul, nI_leI, nI_ltI, nI_eq, wuS_1, wuS_2, wuA_1, wuA_21, wuA_22, nI_m1, m1_nI, nIlt_m1, m1lt_nI, Nat.reduceEqDiff, Nat.reduceAdd, Nat.reduceMul, Nat.reduceSub, Nat.reduceLT, Nat.reduceLeDiff, reduceIte, if_true, if_false, Bool.false_eq_true, Nat.add_zero, Nat.zero_add, ne_eq, not_false_eq_true, not_true_eq_false, Nat.not_lt_zero, Nat.add_left_cancel_iff, Nat.add_right_cancel_iff, eq_self, upd_s, pk_sub, nI_pm, Nat.add_sub_cancel, List.length_cons, List.length_nil, Nat.add_eq_zero_iff, Nat.succ_ne_zero, and_false, false_and, l14, l18, l21, l23, l24, l26, l28, l29, l34, l35, l36, l41, l42, l43, l45, l47, l48, l49, l50, l51, l52, l57, l58, l59, l62, l63, l64, l96, l97, l98, l101, l102, l103, l104, l105, l106, l107, l108, l109, l110, l111, l112, l113, l114, l115, l116, l117, l118, l119, l121, l122, l127, l255, l700, l1320, l1000000, T2.1, tk_shl (tP t) (by omega), Nat.le_refl]
        refine hkk hlt _ ⟨w2, F2, fun e h1 h2 T hT => ?_, ?_⟩
        · by_cases z : e = d
          · rw [z]; exact hM.2 T hT
          · exact hM.1 e (by omega) h2 T hT
        · by_cases e : i + 1 < tD t
          · refine Or.inl ⟨e, ?_⟩
            rw [nI_pm (by omega), show d - 1 = tD t - 1 - (i + 1) by omega]
          · refine Or.inr ⟨by omega, ?_⟩
            rw [show d = 0 by omega]
            rfl
    · subst hlt
      show wpO (B_X10_rota_40 (fun x1 x2 w => kk (x1, x2, w)) _ v mI w') _
      unfold B_X10_rota_40
      simp (disch := omega) only [xB_s, xB2_s, xGet_s, xPut_s, xAld_s, xAst_s, xIf_t, xBool_s, l0, l1, l2, l3, l4, l5, l6, l7, l8, l9, l10, l11, l12, l13, l15, l16, l17, l19, l20, l25, l27, l30, l31, l32, l33, l39, l40, l60, l61, l99, l100, l120, l256, l999, l1999, l99999, lm, nI_add, pk_mul, nI_leI, nI_ltI, nI_eq, wuS_1, wuS_2, wuA_1, wuA_21, wuA_22, nI_m1, m1_nI, nIlt_m1, m1lt_nI, Nat.reduceEqDiff, Nat.reduceAdd, Nat.reduceMul, Nat.reduceSub, Nat.reduceLT, Nat.reduceLeDiff, reduceIte, if_true, if_false, Bool.false_eq_true, Nat.add_zero, Nat.zero_add, ne_eq, not_false_eq_true, not_true_eq_false, Nat.not_lt_zero, Nat.add_left_cancel_iff, Nat.add_right_cancel_iff, eq_self, upd_s, pk_sub, nI_pm, Nat.add_sub_cancel, List.length_cons, List.length_nil, Nat.add_eq_zero_iff, Nat.succ_ne_zero, and_false, false_and, l14, l18, l21, l23, l24, l26, l28, l29, l34, l35, l36, l41, l42, l43, l45, l47, l48, l49, l50, l51, l52, l57, l58, l59, l62, l63, l64, l96, l97, l98, l101, l102, l103, l104, l105, l106, l107, l108, l109, l110, l111, l112, l113, l114, l115, l116, l117, l118, l119, l121, l122, l127, l255, l700, l1320, l1000000, show (mI < nI 0) = True from eq_true (by decide)]
      exact hk w' F (fun e he T hT => hL e (by omega) he T hT)
  · by_cases e : 0 < tD t
    · refine Or.inl ⟨e, ?_⟩
      rw [pk_sub (by omega)]; rfl
    · refine Or.inr ⟨by omega, ?_⟩
      rw [show tD t = 0 by omega]
      rfl
/-- the first of some -/
def isF (c : Nat → Bool) (a b : Nat) (r : Option Nat) : Prop := (r = none ∧ ∀ q, a ≤ q → q < b → c q = false) ∨ ∃ q, r = some q ∧ a ≤ q ∧ q < b ∧ c q = true ∧ ∀ q', a ≤ q' → q' < q → c q' = false
theorem isF_eq {c : Nat → Bool} {a b : Nat} {r r' : Option Nat} (h : isF c a b r) (h' : isF c a b r') : r = r' := by
  rcases h with ⟨e, h1⟩ | ⟨q, e, h1, h2, h3, h4⟩
  · rcases h' with ⟨e', g1⟩ | ⟨q', e', g1, g2, g3, g4⟩
    · rw [e, e']
    · rw [h1 q' g1 g2] at g3; exact Bool.noConfusion g3
  · rcases h' with ⟨e', g1⟩ | ⟨q', e', g1, g2, g3, g4⟩
    · rw [g1 q h1 h2] at h3; exact Bool.noConfusion h3
    · rcases Nat.lt_trichotomy q q' with z | z | z
      · rw [g4 q h1 z] at h3; exact Bool.noConfusion h3
      · rw [e, e', z]
      · rw [h4 q' g1 z] at g3; exact Bool.noConfusion g3
def cdX (t : Tn) (y : Yw) (d T p : Nat) : Bool := myR t y T p && decide (way t y p d + rX t y (tD t - (d + 1)) (T ||| 2 ^ p) = rX t y (tD t - d) T)
theorem x_firstR {t : Tn} {y : Yw} {o : wO} {w : wS} {d T : Nat} (hT : XT t o w) (ho : tOk t) (hy : yOk t y) (hY : XY y (w.2.1 14)) (hL : xLs t y (w.2.1 50) 0) (hd : d < tD t) (hTl : T < 2 ^ tP t) (h8 : p8 T = d) : wpO (L_X9_firstOfRota o (nI d) (nI T) w) (fun r => r.2 = w ∧ ∃ q, r.1 = oI q ∧ isF (cdX t y d T) 0 (tP t) q) := by
  have b1 := ho.1
  have b2 := ho.2.1
  have hP := tk_P b1
  have r9 := xRef_t hT.2.1
  have g0 := hL T (Nat.zero_le _) hTl
  rw [h8] at g0
  have v0 : rX t y (tD t - d) T ≤ 1000000 := vR_le _ _
  unfold L_X9_firstOfRota P_X9_firstOfRota_2
  simp (disch := omega) only [xB_s, xB2_s, xGet_s, xPut_s, xAld_s, xAst_s, xIf_t, xBool_s, l0, l1, l2, l3, l4, l5, l6, l7, l8, l9, l10, l11, l12, l13, l15, l16, l17, l19, l20, l25, l27, l30, l31, l32, l33, l39, l40, l60, l61, l99, l100, l120, l256, l999, l1999, l99999, lm, nI_add, pk_mul, nI_leI, nI_ltI, nI_eq, wuS_1, wuS_2, wuA_1, wuA_21, wuA_22, nI_m1, m1_nI, nIlt_m1, m1lt_nI, Nat.reduceEqDiff, Nat.reduceAdd, Nat.reduceMul, Nat.reduceSub, Nat.reduceLT, Nat.reduceLeDiff, reduceIte, if_true, if_false, Bool.false_eq_true, Nat.add_zero, Nat.zero_add, ne_eq, not_false_eq_true, not_true_eq_false, Nat.not_lt_zero, Nat.add_left_cancel_iff, Nat.add_right_cancel_iff, eq_self, upd_s, pk_sub, nI_pm, Nat.add_sub_cancel, List.length_cons, List.length_nil, Nat.add_eq_zero_iff, Nat.succ_ne_zero, and_false, false_and, l14, l18, l21, l23, l24, l26, l28, l29, l34, l35, l36, l41, l42, l43, l45, l47, l48, l49, l50, l51, l52, l57, l58, l59, l62, l63, l64, l96, l97, l98, l101, l102, l103, l104, l105, l106, l107, l108, l109, l110, l111, l112, l113, l114, l115, l116, l117, l118, l119, l121, l122, l127, l255, l700, l1320, l1000000]
  refine wp_for (tP t) (fun p s => s = (nI d, nI T, nI p, w) ∧ ∀ q, q < p → cdX t y d T q = false) ?_ (i := 0) (by omega) (by omega) ⟨rfl, fun q hq => absurd hq (Nat.not_lt_zero q)⟩
  rintro p _ kk hp ⟨rfl, hq⟩ hkk
  show wpO (B_X9_firstOfRota_2 o (fun x1 x2 x3 w => kk (x1, x2, x3, w)) _ _ (nI d) (nI T) (nI p) w) _
  unfold B_X9_firstOfRota_2 J_X9_firstOfRota_50
  by_cases hpl : p < tP t
  · have c1 := x_mayHave (T := T) hT ho hY hpl
    have c2 := x_wayNow hT ho hy hY hpl hd
    have hw := (way_le ho y p d).1
    simp (disch := omega) only [xB_s, xB2_s, xGet_s, xPut_s, xAld_s, xAst_s, xIf_t, xBool_s, l0, l1, l2, l3, l4, l5, l6, l7, l8, l9, l10, l11, l12, l13, l15, l16, l17, l19, l20, l25, l27, l30, l31, l32, l33, l39, l40, l60, l61, l99, l100, l120, l256, l999, l1999, l99999, lm, nI_add, pk_mul, nI_leI, nI_ltI, nI_eq, wuS_1, wuS_2, wuA_1, wuA_21, wuA_22, nI_m1, m1_nI, nIlt_m1, m1lt_nI, Nat.reduceEqDiff, Nat.reduceAdd, Nat.reduceMul, Nat.reduceSub, Nat.reduceLT, Nat.reduceLeDiff, reduceIte, if_true, if_false, Bool.false_eq_true, Nat.add_zero, Nat.zero_add, ne_eq, not_false_eq_true, not_true_eq_false, Nat.not_lt_zero, Nat.add_left_cancel_iff, Nat.add_right_cancel_iff, eq_self, upd_s, pk_sub, nI_pm, Nat.add_sub_cancel, List.length_cons, List.length_nil, Nat.add_eq_zero_iff, Nat.succ_ne_zero, and_false, false_and, l14, l18, l21, l23, l24, l26, l28, l29, l34, l35, l36, l41, l42, l43, l45, l47, l48, l49, l50, l51, l52, l57, l58, l59, l62, l63, l64, l96, l97, l98, l101, l102, l103, l104, l105, l106, l107, l108, l109, l110, l111, l112, l113, l114, l115, l116, l117, l118, l119, l121, l122, l127, l255, l700, l1320, l1000000, r9, hT.1.1, show (tP t ≤ p) = False from eq_false (by omega), c1]
    have sk : cdX t y d T p = false → wpO (kk (nI d, nI T, nI (p + 1), w)) (fun r => r.2 = w ∧ ∃ q, r.1 = oI q ∧ isF (cdX t y d T) 0 (tP t) q) := fun h => hkk hpl _ ⟨rfl, fun q hq' => by
      by_cases e : q = p
      · rw [e]; exact h
      · exact hq q (by omega)⟩
    cases hm : myR t y T p with
    | false =>
      simp (disch := omega) only [xB_s, xB2_s, xGet_s, xPut_s, xAld_s, xAst_s, xIf_t, xBool_s, l0, l1, l2, l3, l4, l5, l6, l7, l8, l9, l10, l11, l12, l13, l15, l16, l17, l19, l20, l25, l27, l30, l31, l32, l33, l39, l40, l60, l61, l99, l100, l120, l256, l999, l1999, l99999, lm, nI_add, pk_mul, nI_leI, nI_ltI, nI_eq, wuS_1, wuS_2, wuA_1, wuA_21, wuA_22, nI_m1, m1_nI, nIlt_m1, m1lt_nI, Nat.reduceEqDiff, Nat.reduceAdd, Nat.reduceMul, Nat.reduceSub, Nat.reduceLT, Nat.reduceLeDiff, reduceIte, if_true, if_false, Bool.false_eq_true, Nat.add_zero, Nat.zero_add, ne_eq, not_false_eq_true, not_true_eq_false, Nat.not_lt_zero, Nat.add_left_cancel_iff, Nat.add_right_cancel_iff, eq_self, upd_s, pk_sub, nI_pm, Nat.add_sub_cancel, List.length_cons, List.length_nil, Nat.add_eq_zero_iff, Nat.succ_ne_zero, and_false, false_and, l14, l18, l21, l23, l24, l26, l28, l29, l34, l35, l36, l41, l42, l43, l45, l47, l48, l49, l50, l51, l52, l57, l58, l59, l62, l63, l64, l96, l97, l98, l101, l102, l103, l104, l105, l106, l107, l108, l109, l110, l111, l112, l113, l114, l115, l116, l117, l118, l119, l121, l122, l127, l255, l700, l1320, l1000000, Bool.toNat_false]
      exact sk (by unfold cdX; rw [hm]; rfl)
    | true =>
      obtain ⟨g1, g2⟩ := tk_set T (by omega) p (by omega) (myR_iff.mp hm).1
      have g3 := tk_lt (tP t) (by omega) T hTl p hpl
      have g4 := hL (T ||| 2 ^ p) (Nat.zero_le _) g3
      rw [g1, h8] at g4
      have v1 : rX t y (tD t - (d + 1)) (T ||| 2 ^ p) ≤ 1000000 := vR_le _ _
      simp (disch := omega) only [xB_s, xB2_s, xGet_s, xPut_s, xAld_s, xAst_s, xIf_t, xBool_s, l0, l1, l2, l3, l4, l5, l6, l7, l8, l9, l10, l11, l12, l13, l15, l16, l17, l19, l20, l25, l27, l30, l31, l32, l33, l39, l40, l60, l61, l99, l100, l120, l256, l999, l1999, l99999, lm, nI_add, pk_mul, nI_leI, nI_ltI, nI_eq, wuS_1, wuS_2, wuA_1, wuA_21, wuA_22, nI_m1, m1_nI, nIlt_m1, m1lt_nI, Nat.reduceEqDiff, Nat.reduceAdd, Nat.reduceMul, Nat.reduceSub, Nat.reduceLT, Nat.reduceLeDiff, reduceIte, if_true, if_false, Bool.false_eq_true, Nat.add_zero, Nat.zero_add, ne_eq, not_false_eq_true, not_true_eq_false, Nat.not_lt_zero, Nat.add_left_cancel_iff, Nat.add_right_cancel_iff, eq_self, upd_s, pk_sub, nI_pm, Nat.add_sub_cancel, List.length_cons, List.length_nil, Nat.add_eq_zero_iff, Nat.succ_ne_zero, and_false, false_and, l14, l18, l21, l23, l24, l26, l28, l29, l34, l35, l36, l41, l42, l43, l45, l47, l48, l49, l50, l51, l52, l57, l58, l59, l62, l63, l64, l96, l97, l98, l101, l102, l103, l104, l105, l106, l107, l108, l109, l110, l111, l112, l113, l114, l115, l116, l117, l118, l119, l121, l122, l127, l255, l700, l1320, l1000000, Bool.toNat_true, c2, tk_or T (show T < 256 by omega) p (show p < 8 by omega), g4, g0]
      by_cases e : way t y p d + rX t y (tD t - (d + 1)) (T ||| 2 ^ p) = rX t y (tD t - d) T
      · rw [if_pos e]
        exact wp_some ⟨rfl, some p, rfl, Or.inr ⟨p, rfl, Nat.zero_le _, hpl, by unfold cdX; rw [hm, decide_eq_true e]; rfl, fun q _ h => hq q h⟩⟩
      · rw [if_neg e]
        exact sk (by unfold cdX; rw [hm, decide_eq_false e]; rfl)
  · obtain rfl : p = tP t := by omega
    simp (disch := omega) only [xB_s, xB2_s, xGet_s, xPut_s, xAld_s, xAst_s, xIf_t, xBool_s, l0, l1, l2, l3, l4, l5, l6, l7, l8, l9, l10, l11, l12, l13, l15, l16, l17, l19, l20, l25, l27, l30, l31, l32, l33, l39, l40, l60, l61, l99, l100, l120, l256, l999, l1999, l99999, lm, nI_add, pk_mul, nI_leI, nI_ltI, nI_eq, wuS_1, wuS_2, wuA_1, wuA_21, wuA_22, nI_m1, m1_nI, nIlt_m1, m1lt_nI, Nat.reduceEqDiff, Nat.reduceAdd, Nat.reduceMul, Nat.reduceSub, Nat.reduceLT, Nat.reduceLeDiff, reduceIte, if_true, if_false, Bool.false_eq_true, Nat.add_zero, Nat.zero_add, ne_eq, not_false_eq_true, not_true_eq_false, Nat.not_lt_zero, Nat.add_left_cancel_iff, Nat.add_right_cancel_iff, eq_self, upd_s, pk_sub, nI_pm, Nat.add_sub_cancel, List.length_cons, List.length_nil, Nat.add_eq_zero_iff, Nat.succ_ne_zero, and_false, false_and, l14, l18, l21, l23, l24, l26, l28, l29, l34, l35, l36, l41, l42, l43, l45, l47, l48, l49, l50, l51, l52, l57, l58, l59, l62, l63, l64, l96, l97, l98, l101, l102, l103, l104, l105, l106, l107, l108, l109, l110, l111, l112, l113, l114, l115, l116, l117, l118, l119, l121, l122, l127, l255, l700, l1320, l1000000, r9, hT.1.1, Nat.le_refl]
    exact wp_some ⟨rfl, none, rfl, Or.inl ⟨rfl, fun q _ h => hq q h⟩⟩
def cdM (t : Tn) (y : Yw) (d T p : Nat) : Bool := myR t y T p && decide (way t y p d + rM t y (tD t - (d + 1)) (T ||| 2 ^ p) = rM t y (tD t - d) T)
theorem m_firstR {t : Tn} {y : Yw} {w : wS} {d T : Nat} {v : Int32} {ke : Int32 → Int32 → Int32 → Int32 → wS → Option (Int32 × wS)} {Q : Int32 × wS → Prop} (hT : TM t w) (ho : tOk t) (hy : yOk t y) (hY : YM y (w.2.1 16) 0) (hL : ∀ e, e < tD t → ∀ T, T < 2 ^ tP t → w.2.1 24 (256 * e + T) = nI (rM t y (tD t - e) T)) (hd : d < tD t) (hTl : T < 2 ^ tP t) (hk : ∀ q, isF (cdM t y d T) 0 (tP t) q → wpO (ke v (nI T) (oI q) (nI d) w) Q) : wpO (P_X10_rota_194 ke 5000 v (nI T) mI (nI d) (nI (tP t) - nI 1) w) Q := by
  have b1 := ho.1
  have b2 := ho.2.1
  have hP := tk_P b1
  unfold P_X10_rota_194
  refine wp_for (tP t) (fun i s => ∃ q, isF (cdM t y d T) (tP t - i) (tP t) q ∧ ((i < tP t ∧ s = (v, nI T, oI q, nI d, nI (tP t - 1 - i), w)) ∨ (i = tP t ∧ s = (v, nI T, oI q, nI d, mI, w)))) ?_ (i := 0) (by omega) (by omega) ⟨none, Or.inl ⟨rfl, fun q h1 h2 => by omega⟩, ?_⟩
  · rintro i _ kk hi ⟨q, hq, hs⟩ hkk
    rcases hs with ⟨hlt, rfl⟩ | ⟨hlt, rfl⟩
    · obtain ⟨p, hpe⟩ : ∃ p, p = tP t - 1 - i := ⟨_, rfl⟩
      rw [← hpe]
      show wpO (B_X10_rota_194 (fun x1 x2 x3 x4 x5 w => kk (x1, x2, x3, x4, x5, w)) _ v (nI T) (oI q) (nI d) (nI p) w) _
      unfold B_X10_rota_194 J_X10_rota_246
      have hpl : p < tP t := by omega
      have c1 := m_canDo (T := T) hT ho hY hpl
      have c2 := m_wayOf (b := 0) hT hY ho hy (by omega) hpl hd
      have hw := (way_le ho y p d).1
      have nxt : ∀ q', isF (cdM t y d T) p (tP t) q' → wpO (kk (v, nI T, oI q', nI d, nI p + mI, w)) Q := by
        intro q' hq'
        refine hkk hlt _ ⟨q', ?_, ?_⟩
        · rw [show tP t - (i + 1) = p by omega]; exact hq'
        · by_cases e : i + 1 < tP t
          · refine Or.inl ⟨e, ?_⟩
            rw [nI_pm (by omega), show p - 1 = tP t - 1 - (i + 1) by omega]
          · refine Or.inr ⟨by omega, ?_⟩
            rw [show p = 0 by omega]
            rfl
      have sk : cdM t y d T p = false → wpO (kk (v, nI T, oI q, nI d, nI p + mI, w)) Q := fun h => nxt q (by
        have hz : ∀ q', p ≤ q' → q' = p ∨ tP t - i ≤ q' := fun q' h => by omega
        rcases hq with ⟨e, g⟩ | ⟨r, e, g1, g2, g3, g4⟩
        · refine Or.inl ⟨e, fun q' h1 h2 => ?_⟩
          rcases hz q' h1 with z | z
          · rw [z]; exact h
          · exact g q' z h2
        · refine Or.inr ⟨r, e, by omega, g2, g3, fun q' h1 h2 => ?_⟩
          rcases hz q' h1 with z | z
          · rw [z]; exact h
          · exact g4 q' z h2)
      simp (disch := omega) only [xB_s, xB2_s, xGet_s, xPut_s, xAld_s, xAst_s, xIf_t, xBool_s, l0, l1, l2, l3, l4, l5, l6, l7, l8, l9, l10, l11, l12, l13, l15, l16, l17, l19, l20, l25, l27, l30, l31, l32, l33, l39, l40, l60, l61, l99, l100, l120, l256, l999, l1999, l99999, lm, nI_add, pk_mul, nI_leI, nI_ltI, nI_eq, wuS_1, wuS_2, wuA_1, wuA_21, wuA_22, nI_m1, m1_nI, nIlt_m1, m1lt_nI, Nat.reduceEqDiff, Nat.reduceAdd, Nat.reduceMul, Nat.reduceSub, Nat.reduceLT, Nat.reduceLeDiff, reduceIte, if_true, if_false, Bool.false_eq_true, Nat.add_zero, Nat.zero_add, ne_eq, not_false_eq_true, not_true_eq_false, Nat.not_lt_zero, Nat.add_left_cancel_iff, Nat.add_right_cancel_iff, eq_self, upd_s, pk_sub, nI_pm, Nat.add_sub_cancel, List.length_cons, List.length_nil, Nat.add_eq_zero_iff, Nat.succ_ne_zero, and_false, false_and, l14, l18, l21, l23, l24, l26, l28, l29, l34, l35, l36, l41, l42, l43, l45, l47, l48, l49, l50, l51, l52, l57, l58, l59, l62, l63, l64, l96, l97, l98, l101, l102, l103, l104, l105, l106, l107, l108, l109, l110, l111, l112, l113, l114, l115, l116, l117, l118, l119, l121, l122, l127, l255, l700, l1320, l1000000, c1]
      cases hm : myR t y T p with
      | false =>
        simp (disch := omega) only [xB_s, xB2_s, xGet_s, xPut_s, xAld_s, xAst_s, xIf_t, xBool_s, l0, l1, l2, l3, l4, l5, l6, l7, l8, l9, l10, l11, l12, l13, l15, l16, l17, l19, l20, l25, l27, l30, l31, l32, l33, l39, l40, l60, l61, l99, l100, l120, l256, l999, l1999, l99999, lm, nI_add, pk_mul, nI_leI, nI_ltI, nI_eq, wuS_1, wuS_2, wuA_1, wuA_21, wuA_22, nI_m1, m1_nI, nIlt_m1, m1lt_nI, Nat.reduceEqDiff, Nat.reduceAdd, Nat.reduceMul, Nat.reduceSub, Nat.reduceLT, Nat.reduceLeDiff, reduceIte, if_true, if_false, Bool.false_eq_true, Nat.add_zero, Nat.zero_add, ne_eq, not_false_eq_true, not_true_eq_false, Nat.not_lt_zero, Nat.add_left_cancel_iff, Nat.add_right_cancel_iff, eq_self, upd_s, pk_sub, nI_pm, Nat.add_sub_cancel, List.length_cons, List.length_nil, Nat.add_eq_zero_iff, Nat.succ_ne_zero, and_false, false_and, l14, l18, l21, l23, l24, l26, l28, l29, l34, l35, l36, l41, l42, l43, l45, l47, l48, l49, l50, l51, l52, l57, l58, l59, l62, l63, l64, l96, l97, l98, l101, l102, l103, l104, l105, l106, l107, l108, l109, l110, l111, l112, l113, l114, l115, l116, l117, l118, l119, l121, l122, l127, l255, l700, l1320, l1000000, Bool.toNat_false]
        have := sk (by unfold cdM; rw [hm]; rfl)
        exact this
      | true =>
        have g3 := tk_lt (tP t) (by omega) T hTl p hpl
        have g4 := m_leastOf (y := y) (d := d + 1) (T := T ||| 2 ^ p) hT ho (by omega) (by omega) (fun h => hL (d + 1) h _ g3)
        have g5 := m_leastOf (y := y) (d := d) (T := T) hT ho (by omega) (by omega) (fun h => hL d h _ hTl)
        have v1 : rM t y (tD t - (d + 1)) (T ||| 2 ^ p) ≤ 99999 := vR_le _ _
        have v0 : rM t y (tD t - d) T ≤ 99999 := vR_le _ _
        simp (disch := omega) only [xB_s, xB2_s, xGet_s, xPut_s, xAld_s, xAst_s, xIf_t, xBool_s, l0, l1, l2, l3, l4, l5, l6, l7, l8, l9, l10, l11, l12, l13, l15, l16, l17, l19, l20, l25, l27, l30, l31, l32, l33, l39, l40, l60, l61, l99, l100, l120, l256, l999, l1999, l99999, lm, nI_add, pk_mul, nI_leI, nI_ltI, nI_eq, wuS_1, wuS_2, wuA_1, wuA_21, wuA_22, nI_m1, m1_nI, nIlt_m1, m1lt_nI, Nat.reduceEqDiff, Nat.reduceAdd, Nat.reduceMul, Nat.reduceSub, Nat.reduceLT, Nat.reduceLeDiff, reduceIte, if_true, if_false, Bool.false_eq_true, Nat.add_zero, Nat.zero_add, ne_eq, not_false_eq_true, not_true_eq_false, Nat.not_lt_zero, Nat.add_left_cancel_iff, Nat.add_right_cancel_iff, eq_self, upd_s, pk_sub, nI_pm, Nat.add_sub_cancel, List.length_cons, List.length_nil, Nat.add_eq_zero_iff, Nat.succ_ne_zero, and_false, false_and, l14, l18, l21, l23, l24, l26, l28, l29, l34, l35, l36, l41, l42, l43, l45, l47, l48, l49, l50, l51, l52, l57, l58, l59, l62, l63, l64, l96, l97, l98, l101, l102, l103, l104, l105, l106, l107, l108, l109, l110, l111, l112, l113, l114, l115, l116, l117, l118, l119, l121, l122, l127, l255, l700, l1320, l1000000, Bool.toNat_true, c2, tk_or T (show T < 256 by omega) p (show p < 8 by omega), g4, g5]
        by_cases e : way t y p d + rM t y (tD t - (d + 1)) (T ||| 2 ^ p) = rM t y (tD t - d) T
        · rw [if_pos e]
          exact nxt (some p) (Or.inr ⟨p, rfl, Nat.le_refl _, hpl, by unfold cdM; rw [hm, decide_eq_true e]; rfl, fun q' h1 h2 => by omega⟩)
        · rw [if_neg e]
          exact sk (by unfold cdM; rw [hm, decide_eq_false e]; rfl)
    · subst hlt
      show wpO (B_X10_rota_194 (fun x1 x2 x3 x4 x5 w => kk (x1, x2, x3, x4, x5, w)) _ v (nI T) (oI q) (nI d) mI w) _
      unfold B_X10_rota_194
      simp (disch := omega) only [xB_s, xB2_s, xGet_s, xPut_s, xAld_s, xAst_s, xIf_t, xBool_s, l0, l1, l2, l3, l4, l5, l6, l7, l8, l9, l10, l11, l12, l13, l15, l16, l17, l19, l20, l25, l27, l30, l31, l32, l33, l39, l40, l60, l61, l99, l100, l120, l256, l999, l1999, l99999, lm, nI_add, pk_mul, nI_leI, nI_ltI, nI_eq, wuS_1, wuS_2, wuA_1, wuA_21, wuA_22, nI_m1, m1_nI, nIlt_m1, m1lt_nI, Nat.reduceEqDiff, Nat.reduceAdd, Nat.reduceMul, Nat.reduceSub, Nat.reduceLT, Nat.reduceLeDiff, reduceIte, if_true, if_false, Bool.false_eq_true, Nat.add_zero, Nat.zero_add, ne_eq, not_false_eq_true, not_true_eq_false, Nat.not_lt_zero, Nat.add_left_cancel_iff, Nat.add_right_cancel_iff, eq_self, upd_s, pk_sub, nI_pm, Nat.add_sub_cancel, List.length_cons, List.length_nil, Nat.add_eq_zero_iff, Nat.succ_ne_zero, and_false, false_and, l14, l18, l21, l23, l24, l26, l28, l29, l34, l35, l36, l41, l42, l43, l45, l47, l48, l49, l50, l51, l52, l57, l58, l59, l62, l63, l64, l96, l97, l98, l101, l102, l103, l104, l105, l106, l107, l108, l109, l110, l111, l112, l113, l114, l115, l116, l117, l118, l119, l121, l122, l127, l255, l700, l1320, l1000000, show (mI < nI 0) = True from eq_true (by decide)]
      rw [Nat.sub_self] at hq
      exact hk q hq
  · by_cases e : 0 < tP t
    · refine Or.inl ⟨e, ?_⟩
      rw [pk_sub (by omega)]; rfl
    · refine Or.inr ⟨by omega, ?_⟩
      rw [show tP t = 0 by omega]
      rfl
end
