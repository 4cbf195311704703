section
theorem R2.iffM {α β : Type} {ox : Option α} {om : Option β} {Q : α → β → Prop} : R2 ox om Q ↔ wpO om (fun b => ∃ a, ox = Option.some a ∧ Q a b) := by
  constructor
  · rintro ⟨a, b, e1, e2, h⟩; exact ⟨b, e2, a, e1, h⟩
  · rintro ⟨b, e2, a, e1, h⟩; exact ⟨a, b, e1, e2, h⟩
theorem isF_cong {c c' : Nat → Bool} {a b : Nat} {r : Option Nat} (h : isF c a b r) (e : ∀ q, q < b → c q = c' q) : isF c' a b r := by
  rcases h with ⟨h0, h1⟩ | ⟨q, h0, h1, h2, h3, h4⟩
  · exact Or.inl ⟨h0, fun q g1 g2 => by rw [← e q g2]; exact h1 q g1 g2⟩
  · exact Or.inr ⟨q, h0, h1, h2, by rw [← e q h2]; exact h3, fun q' g1 g2 => by rw [← e q' (by omega)]; exact h4 q' g1 g2⟩
theorem rx_rl {t : Tn} {y : Yw} (ho : tOk t) {k : Nat} (T : Nat) (hk : k ≤ 6) : rl k (rX t y k T) (rM t y k T) := vR_rl (fun p d => (way_le ho y p d).1) T hk
theorem rota_go {t : Tn} {y : Yw} {o : wO} {wx wm w1 : wS} {v : Int32} (h : PQ t y o wx w1) (q1 : QM wm w1) (z1 : w1.1 0 = nI 0) (hv : v = mI ∨ ∃ i, i < tD t ∧ v = nI i) : R2 (J_X9_rota_10 o v wx) (J_X10_rota_24 v (nI 1) w1) (QA cdN wx wm) := by
  have hh := h
  obtain ⟨⟨ho, hy, hD⟩, ⟨hT, hY⟩, T1, Y1, _⟩ := hh
  have b1 := ho.1
  have b2 := ho.2.1
  have hP := tk_P b1
  have hP1 : 1 ≤ 2 ^ tP t := Nat.one_le_two_pow
  have hw : ∀ p d, way t y p d ≤ 330 := fun p d => (way_le ho y p d).1
  unfold J_X9_rota_10 J_X10_rota_24
  refine R2.x (x_fillL hT ho hy hY) ?_
  rintro wx1 ⟨F1, hL⟩
  simp (disch := omega) only [xB_s, xB2_s, xGet_s, xPut_s, xAld_s, xAst_s, xIf_t, xBool_s, l0, l1, l2, l3, l4, l5, l6, l7, l8, l9, l10, l11, l12, l13, l15, l16, l17, l19, l20, l25, l27, l30, l31, l32, l33, l39, l40, l60, l61, l99, l100, l120, l256, l999, l1999, l99999, lm, nI_add, pk_mul, nI_leI, nI_ltI, nI_eq, wuS_1, wuS_2, wuA_1, wuA_21, wuA_22, nI_m1, m1_nI, nIlt_m1, m1lt_nI, Nat.reduceEqDiff, Nat.reduceAdd, Nat.reduceMul, Nat.reduceSub, Nat.reduceLT, Nat.reduceLeDiff, reduceIte, if_true, if_false, Bool.false_eq_true, Nat.add_zero, Nat.zero_add, ne_eq, not_false_eq_true, not_true_eq_false, Nat.not_lt_zero, Nat.add_left_cancel_iff, Nat.add_right_cancel_iff, eq_self, upd_s, pk_sub, nI_pm, Nat.add_sub_cancel, List.length_cons, List.length_nil, Nat.add_eq_zero_iff, Nat.succ_ne_zero, and_false, false_and, l14, l18, l21, l23, l24, l26, l28, l29, l34, l35, l36, l41, l42, l43, l45, l47, l48, l49, l50, l51, l52, l57, l58, l59, l62, l63, l64, l96, l97, l98, l101, l102, l103, l104, l105, l106, l107, l108, l109, l110, l111, l112, l113, l114, l115, l116, l117, l118, l119, l121, l122, l127, l255, l700, l1320, l1000000, m_right z1, T1.2.1]
  refine R2.iffM.mpr (m_fillL T1 ho hy Y1 ?_)
  intro wm1 F2 hM
  refine R2.iffM.mp ?_
  have hx : QX wx wx1 := QX.fr (F1.mono (by simp) (by decide))
  have hm : QM wm wm1 := q1.trans ⟨F2.mono (by simp) (by decide), fun k _ => by rw [F2.2.1 16 (by decide)], Or.inl (F2.1 55 (by simp))⟩
  have hz : wm1.1 0 = nI 0 := by rw [F2.1 0 (by simp)]; exact z1
  have T2 := T1.a F2
  have Y2 : YM y (wm1.2.1 16) 0 := by rw [F2.2.1 16 (by decide)]; exact Y1
  have hT2 := hT.a F1
  have hY2 : XY y (wx1.2.1 14) := by rw [F1.2.1 14 (by decide)]; exact hY
  have a0 := hL 0 (Nat.le_refl _) (by omega)
  rw [show p8 0 = 0 by decide, Nat.sub_zero] at a0
  have m0 := m_leastOf (y := y) (d := 0) (T := 0) T2 ho (Nat.zero_le _) (by omega) (fun h => hM 0 h 0 (by omega))
  rw [Nat.sub_zero] at m0
  have hr := rx_rl (y := y) ho 0 b2
  have u0 : rX t y (tD t) 0 ≤ 1000000 := vR_le _ _
  have u1 : rM t y (tD t) 0 ≤ 99999 := vR_le _ _
  simp (disch := omega) only [xB_s, xB2_s, xGet_s, xPut_s, xAld_s, xAst_s, xIf_t, xBool_s, l0, l1, l2, l3, l4, l5, l6, l7, l8, l9, l10, l11, l12, l13, l15, l16, l17, l19, l20, l25, l27, l30, l31, l32, l33, l39, l40, l60, l61, l99, l100, l120, l256, l999, l1999, l99999, lm, nI_add, pk_mul, nI_leI, nI_ltI, nI_eq, wuS_1, wuS_2, wuA_1, wuA_21, wuA_22, nI_m1, m1_nI, nIlt_m1, m1lt_nI, Nat.reduceEqDiff, Nat.reduceAdd, Nat.reduceMul, Nat.reduceSub, Nat.reduceLT, Nat.reduceLeDiff, reduceIte, if_true, if_false, Bool.false_eq_true, Nat.add_zero, Nat.zero_add, ne_eq, not_false_eq_true, not_true_eq_false, Nat.not_lt_zero, Nat.add_left_cancel_iff, Nat.add_right_cancel_iff, eq_self, upd_s, pk_sub, nI_pm, Nat.add_sub_cancel, List.length_cons, List.length_nil, Nat.add_eq_zero_iff, Nat.succ_ne_zero, and_false, false_and, l14, l18, l21, l23, l24, l26, l28, l29, l34, l35, l36, l41, l42, l43, l45, l47, l48, l49, l50, l51, l52, l57, l58, l59, l62, l63, l64, l96, l97, l98, l101, l102, l103, l104, l105, l106, l107, l108, l109, l110, l111, l112, l113, l114, l115, l116, l117, l118, l119, l121, l122, l127, l255, l700, l1320, l1000000, a0, m0]
  rcases hr with ⟨e1, e2⟩ | ⟨e1, e2⟩
  · rw [if_pos (show rX t y (tD t) 0 < 1000000 by omega), if_pos (show rM t y (tD t) 0 < 99999 by omega)]
    rcases hv with rfl | ⟨i, hi, rfl⟩
    · simp (disch := omega) only [xB_s, xB2_s, xGet_s, xPut_s, xAld_s, xAst_s, xIf_t, xBool_s, l0, l1, l2, l3, l4, l5, l6, l7, l8, l9, l10, l11, l12, l13, l15, l16, l17, l19, l20, l25, l27, l30, l31, l32, l33, l39, l40, l60, l61, l99, l100, l120, l256, l999, l1999, l99999, lm, nI_add, pk_mul, nI_leI, nI_ltI, nI_eq, wuS_1, wuS_2, wuA_1, wuA_21, wuA_22, nI_m1, m1_nI, nIlt_m1, m1lt_nI, Nat.reduceEqDiff, Nat.reduceAdd, Nat.reduceMul, Nat.reduceSub, Nat.reduceLT, Nat.reduceLeDiff, reduceIte, if_true, if_false, Bool.false_eq_true, Nat.add_zero, Nat.zero_add, ne_eq, not_false_eq_true, not_true_eq_false, Nat.not_lt_zero, Nat.add_left_cancel_iff, Nat.add_right_cancel_iff, eq_self, upd_s, pk_sub, nI_pm, Nat.add_sub_cancel, List.length_cons, List.length_nil, Nat.add_eq_zero_iff, Nat.succ_ne_zero, and_false, false_and, l14, l18, l21, l23, l24, l26, l28, l29, l34, l35, l36, l41, l42, l43, l45, l47, l48, l49, l50, l51, l52, l57, l58, l59, l62, l63, l64, l96, l97, l98, l101, l102, l103, l104, l105, l106, l107, l108, l109, l110, l111, l112, l113, l114, l115, l116, l117, l118, l119, l121, l122, l127, l255, l700, l1320, l1000000]
      exact QA.ok hx hm hz (by rw [e1])
    · simp (disch := omega) only [xB_s, xB2_s, xGet_s, xPut_s, xAld_s, xAst_s, xIf_t, xBool_s, l0, l1, l2, l3, l4, l5, l6, l7, l8, l9, l10, l11, l12, l13, l15, l16, l17, l19, l20, l25, l27, l30, l31, l32, l33, l39, l40, l60, l61, l99, l100, l120, l256, l999, l1999, l99999, lm, nI_add, pk_mul, nI_leI, nI_ltI, nI_eq, wuS_1, wuS_2, wuA_1, wuA_21, wuA_22, nI_m1, m1_nI, nIlt_m1, m1lt_nI, Nat.reduceEqDiff, Nat.reduceAdd, Nat.reduceMul, Nat.reduceSub, Nat.reduceLT, Nat.reduceLeDiff, reduceIte, if_true, if_false, Bool.false_eq_true, Nat.add_zero, Nat.zero_add, ne_eq, not_false_eq_true, not_true_eq_false, Nat.not_lt_zero, Nat.add_left_cancel_iff, Nat.add_right_cancel_iff, eq_self, upd_s, pk_sub, nI_pm, Nat.add_sub_cancel, List.length_cons, List.length_nil, Nat.add_eq_zero_iff, Nat.succ_ne_zero, and_false, false_and, l14, l18, l21, l23, l24, l26, l28, l29, l34, l35, l36, l41, l42, l43, l45, l47, l48, l49, l50, l51, l52, l57, l58, l59, l62, l63, l64, l96, l97, l98, l101, l102, l103, l104, l105, l106, l107, l108, l109, l110, l111, l112, l113, l114, l115, l116, l117, l118, l119, l121, l122, l127, l255, l700, l1320, l1000000]
      unfold P_X9_rota_48 P_X10_rota_178
      refine r_for (i + 1) (fun d s s' => ∃ (T : Nat) (u : Int32), s = (nI i, nI T, u, nI d, wx1) ∧ s' = (nI i, nI T, u, nI d, wm1) ∧ T < 2 ^ tP t ∧ p8 T = d ∧ rX t y (tD t - d) T = rM t y (tD t - d) T ∧ rX t y (tD t - d) T ≤ 1980) ?_ (i := 0) (by omega) (by omega) (by omega) ⟨0, mI, rfl, rfl, by omega, by decide, by rw [Nat.sub_zero]; exact e1, by rw [Nat.sub_zero]; omega⟩
      rintro d _ _ kx km hd ⟨T, u, rfl, rfl, g1, g2, g3, g4⟩ hkk
      show R2 (B_X9_rota_48 o (fun x1 x2 x3 x4 w => kx (x1, x2, x3, x4, w)) _ _ (nI i) (nI T) u (nI d) wx1) (B_X10_rota_178 (fun x1 x2 x3 x4 w => km (x1, x2, x3, x4, w)) _ (nI i) (nI T) u (nI d) wm1) _
      unfold B_X9_rota_48 B_X10_rota_178
      by_cases hlt : d < i + 1
      · simp (disch := omega) only [xB_s, xB2_s, xGet_s, xPut_s, xAld_s, xAst_s, xIf_t, xBool_s, l0, l1, l2, l3, l4, l5, l6, l7, l8, l9, l10, l11, l12, l13, l15, l16, l17, l19, l20, l25, l27, l30, l31, l32, l33, l39, l40, l60, l61, l99, l100, l120, l256, l999, l1999, l99999, lm, nI_add, pk_mul, nI_leI, nI_ltI, nI_eq, wuS_1, wuS_2, wuA_1, wuA_21, wuA_22, nI_m1, m1_nI, nIlt_m1, m1lt_nI, Nat.reduceEqDiff, Nat.reduceAdd, Nat.reduceMul, Nat.reduceSub, Nat.reduceLT, Nat.reduceLeDiff, reduceIte, if_true, if_false, Bool.false_eq_true, Nat.add_zero, Nat.zero_add, ne_eq, not_false_eq_true, not_true_eq_false, Nat.not_lt_zero, Nat.add_left_cancel_iff, Nat.add_right_cancel_iff, eq_self, upd_s, pk_sub, nI_pm, Nat.add_sub_cancel, List.length_cons, List.length_nil, Nat.add_eq_zero_iff, Nat.succ_ne_zero, and_false, false_and, l14, l18, l21, l23, l24, l26, l28, l29, l34, l35, l36, l41, l42, l43, l45, l47, l48, l49, l50, l51, l52, l57, l58, l59, l62, l63, l64, l96, l97, l98, l101, l102, l103, l104, l105, l106, l107, l108, l109, l110, l111, l112, l113, l114, l115, l116, l117, l118, l119, l121, l122, l127, l255, l700, l1320, l1000000, show (i < d) = False from eq_false (by omega), T2.1]
        refine R2.x2 (x_firstR hT2 ho hy hY2 hL (by omega) g1 g2) ?_
        rintro rx wx2 ⟨c1, q, c2, c3⟩
        obtain rfl : wx2 = wx1 := c1
        obtain rfl : rx = oI q := c2
        refine R2.iffM.mpr (m_firstR T2 ho hy Y2 hM (show d < tD t by omega) g1 ?_)
        intro q' c4
        refine R2.iffM.mp ?_
        obtain ⟨k, hk⟩ : ∃ k, tD t - d = k + 1 := ⟨tD t - d - 1, by omega⟩
        have hk1 : tD t - (d + 1) = k := by omega
        have hk2 : tD t - (k + 1) = d := by omega
        have hcc : ∀ p, p < tP t → cdM t y d T p = cdX t y d T p := by
          intro p hp
          unfold cdM cdX
          cases hm : myR t y T p with
          | false => rfl
          | true =>
            have hr := rx_rl (y := y) ho (T ||| 2 ^ p) (show tD t - (d + 1) ≤ 6 by omega)
            have := hw p d
            congr 1
            apply decide_eq_decide.mpr
            unfold rl at hr
            omega
        obtain rfl := isF_eq c3 (isF_cong c4 hcc)
        rcases c3 with ⟨rfl, c5⟩ | ⟨p, rfl, c5, c6, c7, c8⟩
        · exfalso
          have : rX t y (tD t - d) T ≠ 1000000 := by omega
          rw [hk] at this
          obtain ⟨p, h1, h2, h3⟩ := vI_at this
          have h3 : way t y p (tD t - (k + 1)) + rX t y k (T ||| 2 ^ p) = rX t y (k + 1) T := h3
          rw [hk2] at h3
          have := c5 p (Nat.zero_le _) h1
          unfold cdX at this
          rw [h2, hk1, hk, decide_eq_true h3] at this
          exact Bool.noConfusion this
        · have hmy : myR t y T p = true := by
            unfold cdX at c7
            exact (Bool.and_eq_true _ _ ▸ c7).1
          have heq : way t y p d + rX t y (tD t - (d + 1)) (T ||| 2 ^ p) = rX t y (tD t - d) T := by
            unfold cdX at c7
            exact of_decide_eq_true (Bool.and_eq_true _ _ ▸ c7).2
          obtain ⟨s1, s2⟩ := tk_set T (by omega) p (by omega) (myR_iff.mp hmy).1
          have hr := rx_rl (y := y) ho (T ||| 2 ^ p) (show tD t - (d + 1) ≤ 6 by omega)
          simp (disch := omega) only [xB_s, xB2_s, xGet_s, xPut_s, xAld_s, xAst_s, xIf_t, xBool_s, l0, l1, l2, l3, l4, l5, l6, l7, l8, l9, l10, l11, l12, l13, l15, l16, l17, l19, l20, l25, l27, l30, l31, l32, l33, l39, l40, l60, l61, l99, l100, l120, l256, l999, l1999, l99999, lm, nI_add, pk_mul, nI_leI, nI_ltI, nI_eq, wuS_1, wuS_2, wuA_1, wuA_21, wuA_22, nI_m1, m1_nI, nIlt_m1, m1lt_nI, Nat.reduceEqDiff, Nat.reduceAdd, Nat.reduceMul, Nat.reduceSub, Nat.reduceLT, Nat.reduceLeDiff, reduceIte, if_true, if_false, Bool.false_eq_true, Nat.add_zero, Nat.zero_add, ne_eq, not_false_eq_true, not_true_eq_false, Nat.not_lt_zero, Nat.add_left_cancel_iff, Nat.add_right_cancel_iff, eq_self, upd_s, pk_sub, nI_pm, Nat.add_sub_cancel, List.length_cons, List.length_nil, Nat.add_eq_zero_iff, Nat.succ_ne_zero, and_false, false_and, l14, l18, l21, l23, l24, l26, l28, l29, l34, l35, l36, l41, l42, l43, l45, l47, l48, l49, l50, l51, l52, l57, l58, l59, l62, l63, l64, l96, l97, l98, l101, l102, l103, l104, l105, l106, l107, l108, l109, l110, l111, l112, l113, l114, l115, l116, l117, l118, l119, l121, l122, l127, l255, l700, l1320, l1000000, oI_s, tk_or T (show T < 256 by omega) p (show p < 8 by omega)]
          refine hkk hlt _ _ ⟨T ||| 2 ^ p, nI p, rfl, rfl, tk_lt (tP t) (by omega) T g1 p c6, by omega, ?_, by omega⟩
          unfold rl at hr
          omega
      · obtain rfl : d = i + 1 := by omega
        simp (disch := omega) only [xB_s, xB2_s, xGet_s, xPut_s, xAld_s, xAst_s, xIf_t, xBool_s, l0, l1, l2, l3, l4, l5, l6, l7, l8, l9, l10, l11, l12, l13, l15, l16, l17, l19, l20, l25, l27, l30, l31, l32, l33, l39, l40, l60, l61, l99, l100, l120, l256, l999, l1999, l99999, lm, nI_add, pk_mul, nI_leI, nI_ltI, nI_eq, wuS_1, wuS_2, wuA_1, wuA_21, wuA_22, nI_m1, m1_nI, nIlt_m1, m1lt_nI, Nat.reduceEqDiff, Nat.reduceAdd, Nat.reduceMul, Nat.reduceSub, Nat.reduceLT, Nat.reduceLeDiff, reduceIte, if_true, if_false, Bool.false_eq_true, Nat.add_zero, Nat.zero_add, ne_eq, not_false_eq_true, not_true_eq_false, Nat.not_lt_zero, Nat.add_left_cancel_iff, Nat.add_right_cancel_iff, eq_self, upd_s, pk_sub, nI_pm, Nat.add_sub_cancel, List.length_cons, List.length_nil, Nat.add_eq_zero_iff, Nat.succ_ne_zero, and_false, false_and, l14, l18, l21, l23, l24, l26, l28, l29, l34, l35, l36, l41, l42, l43, l45, l47, l48, l49, l50, l51, l52, l57, l58, l59, l62, l63, l64, l96, l97, l98, l101, l102, l103, l104, l105, l106, l107, l108, l109, l110, l111, l112, l113, l114, l115, l116, l117, l118, l119, l121, l122, l127, l255, l700, l1320, l1000000, show (i < i + 1) = True from eq_true (by omega)]
        exact QA.ok hx hm hz rfl
  · rw [if_neg (show ¬ rX t y (tD t) 0 < 1000000 by omega), if_neg (show ¬ rM t y (tD t) 0 < 99999 by omega)]
    exact QA.ok hx hm hz rfl
theorem q_rota {t : Tn} {y : Yw} {o : wO} {wx wm : wS} {a1 : Int32} (h : PQ t y o wx wm) : R2 (L_X9_rota o a1 wx) (L_X10_rota a1 wm) (QA cdN wx wm) := by
  obtain ⟨w1, e1, q1, z1, T1, Y1, h1⟩ := h.put
  have hh := h
  obtain ⟨⟨ho, hy, hD⟩, ⟨hT, hY⟩, _⟩ := hh
  have b2 := ho.2.1
  have r1 := xRef_t hT.2.1
  unfold L_X9_rota L_X10_rota J_X10_rota_23
  simp only [xB_s, xB2_s, xIf_t, xBT_n, xBT_e, l0, l1, l2, l3, l4, l5, l6, l7, l8, l9, l10, l11, l12, l13, l15, l16, l17, l19, l20, l25, l27, l30, l31, l32, l33, l39, l40, l60, l61, l99, l100, l120, l256, l999, l1999, l99999, lm, l14, l18, l21, l23, l24, l26, l28, l29, l34, l35, l36, l41, l42, l43, l45, l47, l48, l49, l50, l51, l52, l57, l58, l59, l62, l63, l64, l96, l97, l98, l101, l102, l103, l104, l105, l106, l107, l108, l109, l110, l111, l112, l113, l114, l115, l116, l117, l118, l119, l121, l122, l127, l255, l700, l1320, l1000000, e1]
  by_cases hm : a1 = mI
  · subst hm
    simp (disch := omega) only [xB_s, xB2_s, xGet_s, xPut_s, xAld_s, xAst_s, xIf_t, xBool_s, l0, l1, l2, l3, l4, l5, l6, l7, l8, l9, l10, l11, l12, l13, l15, l16, l17, l19, l20, l25, l27, l30, l31, l32, l33, l39, l40, l60, l61, l99, l100, l120, l256, l999, l1999, l99999, lm, nI_add, pk_mul, nI_leI, nI_ltI, nI_eq, wuS_1, wuS_2, wuA_1, wuA_21, wuA_22, nI_m1, m1_nI, nIlt_m1, m1lt_nI, Nat.reduceEqDiff, Nat.reduceAdd, Nat.reduceMul, Nat.reduceSub, Nat.reduceLT, Nat.reduceLeDiff, reduceIte, if_true, if_false, Bool.false_eq_true, Nat.add_zero, Nat.zero_add, ne_eq, not_false_eq_true, not_true_eq_false, Nat.not_lt_zero, Nat.add_left_cancel_iff, Nat.add_right_cancel_iff, eq_self, upd_s, pk_sub, nI_pm, Nat.add_sub_cancel, List.length_cons, List.length_nil, Nat.add_eq_zero_iff, Nat.succ_ne_zero, and_false, false_and, l14, l18, l21, l23, l24, l26, l28, l29, l34, l35, l36, l41, l42, l43, l45, l47, l48, l49, l50, l51, l52, l57, l58, l59, l62, l63, l64, l96, l97, l98, l101, l102, l103, l104, l105, l106, l107, l108, l109, l110, l111, l112, l113, l114, l115, l116, l117, l118, l119, l121, l122, l127, l255, l700, l1320, l1000000, show (mI < mI) = False from eq_false (by decide), T1.2.1]
    exact rota_go h1 q1 z1 (Or.inl rfl)
  · have no : R2 (some ((.inr cNo : Int32 ⊕ String), wx)) (J_X10_rota_24 a1 (nI 0) w1) (QA cdN wx wm) := by
      unfold J_X10_rota_24
      simp (disch := omega) only [xB_s, xB2_s, xGet_s, xPut_s, xAld_s, xAst_s, xIf_t, xBool_s, l0, l1, l2, l3, l4, l5, l6, l7, l8, l9, l10, l11, l12, l13, l15, l16, l17, l19, l20, l25, l27, l30, l31, l32, l33, l39, l40, l60, l61, l99, l100, l120, l256, l999, l1999, l99999, lm, nI_add, pk_mul, nI_leI, nI_ltI, nI_eq, wuS_1, wuS_2, wuA_1, wuA_21, wuA_22, nI_m1, m1_nI, nIlt_m1, m1lt_nI, Nat.reduceEqDiff, Nat.reduceAdd, Nat.reduceMul, Nat.reduceSub, Nat.reduceLT, Nat.reduceLeDiff, reduceIte, if_true, if_false, Bool.false_eq_true, Nat.add_zero, Nat.zero_add, ne_eq, not_false_eq_true, not_true_eq_false, Nat.not_lt_zero, Nat.add_left_cancel_iff, Nat.add_right_cancel_iff, eq_self, upd_s, pk_sub, nI_pm, Nat.add_sub_cancel, List.length_cons, List.length_nil, Nat.add_eq_zero_iff, Nat.succ_ne_zero, and_false, false_and, l14, l18, l21, l23, l24, l26, l28, l29, l34, l35, l36, l41, l42, l43, l45, l47, l48, l49, l50, l51, l52, l57, l58, l59, l62, l63, l64, l96, l97, l98, l101, l102, l103, l104, l105, l106, l107, l108, l109, l110, l111, l112, l113, l114, l115, l116, l117, l118, l119, l121, l122, l127, l255, l700, l1320, l1000000, m_right z1]
      exact QA.no q1
    rw [if_neg hm]
    unfold L_X9_needDuty J_X9_needDuty_15
    rcases pk_ix a1 (n := tD t) (by omega) with hx | hx | ⟨p, hp, rfl⟩
    · have e : (a1 < nI 0) = True := eq_true hx
      have e2 : (a1 < mI) = True := eq_true (by
        have h3 := Int32.lt_iff_toInt_lt.mp hx
        refine Int32.lt_iff_toInt_lt.mpr ?_
        rw [show (0 : Int32).toInt = 0 by decide] at h3
        rw [mI_toInt]
        have : a1.toInt ≠ -1 := fun z => hm (Int32.toInt_inj.mp (by rw [z, mI_toInt]))
        omega)
      simp (disch := omega) only [xB_s, xB2_s, xGet_s, xPut_s, xAld_s, xAst_s, xIf_t, xBool_s, l0, l1, l2, l3, l4, l5, l6, l7, l8, l9, l10, l11, l12, l13, l15, l16, l17, l19, l20, l25, l27, l30, l31, l32, l33, l39, l40, l60, l61, l99, l100, l120, l256, l999, l1999, l99999, lm, nI_add, pk_mul, nI_leI, nI_ltI, nI_eq, wuS_1, wuS_2, wuA_1, wuA_21, wuA_22, nI_m1, m1_nI, nIlt_m1, m1lt_nI, Nat.reduceEqDiff, Nat.reduceAdd, Nat.reduceMul, Nat.reduceSub, Nat.reduceLT, Nat.reduceLeDiff, reduceIte, if_true, if_false, Bool.false_eq_true, Nat.add_zero, Nat.zero_add, ne_eq, not_false_eq_true, not_true_eq_false, Nat.not_lt_zero, Nat.add_left_cancel_iff, Nat.add_right_cancel_iff, eq_self, upd_s, pk_sub, nI_pm, Nat.add_sub_cancel, List.length_cons, List.length_nil, Nat.add_eq_zero_iff, Nat.succ_ne_zero, and_false, false_and, l14, l18, l21, l23, l24, l26, l28, l29, l34, l35, l36, l41, l42, l43, l45, l47, l48, l49, l50, l51, l52, l57, l58, l59, l62, l63, l64, l96, l97, l98, l101, l102, l103, l104, l105, l106, l107, l108, l109, l110, l111, l112, l113, l114, l115, l116, l117, l118, l119, l121, l122, l127, l255, l700, l1320, l1000000, e, e2, xBT_e]
      exact no
    · have e3 : (nI (tD t) ≤ a1) = True := eq_true hx
      by_cases hn : a1 < nI 0
      · exfalso
        have h3 := Int32.lt_iff_toInt_lt.mp hn
        have h4 := Int32.le_iff_toInt_le.mp hx
        rw [nI_toInt (by omega)] at h3 h4
        omega
      · have e : (a1 < nI 0) = False := eq_false hn
        have e2 : (a1 < mI) = False := eq_false (fun z => by
          have h4 := Int32.le_iff_toInt_le.mp hx
          have h5 := Int32.lt_iff_toInt_lt.mp z
          rw [nI_toInt (by omega)] at h4
          rw [mI_toInt] at h5
          omega)
        simp (disch := omega) only [xB_s, xB2_s, xGet_s, xPut_s, xAld_s, xAst_s, xIf_t, xBool_s, l0, l1, l2, l3, l4, l5, l6, l7, l8, l9, l10, l11, l12, l13, l15, l16, l17, l19, l20, l25, l27, l30, l31, l32, l33, l39, l40, l60, l61, l99, l100, l120, l256, l999, l1999, l99999, lm, nI_add, pk_mul, nI_leI, nI_ltI, nI_eq, wuS_1, wuS_2, wuA_1, wuA_21, wuA_22, nI_m1, m1_nI, nIlt_m1, m1lt_nI, Nat.reduceEqDiff, Nat.reduceAdd, Nat.reduceMul, Nat.reduceSub, Nat.reduceLT, Nat.reduceLeDiff, reduceIte, if_true, if_false, Bool.false_eq_true, Nat.add_zero, Nat.zero_add, ne_eq, not_false_eq_true, not_true_eq_false, Nat.not_lt_zero, Nat.add_left_cancel_iff, Nat.add_right_cancel_iff, eq_self, upd_s, pk_sub, nI_pm, Nat.add_sub_cancel, List.length_cons, List.length_nil, Nat.add_eq_zero_iff, Nat.succ_ne_zero, and_false, false_and, l14, l18, l21, l23, l24, l26, l28, l29, l34, l35, l36, l41, l42, l43, l45, l47, l48, l49, l50, l51, l52, l57, l58, l59, l62, l63, l64, l96, l97, l98, l101, l102, l103, l104, l105, l106, l107, l108, l109, l110, l111, l112, l113, l114, l115, l116, l117, l118, l119, l121, l122, l127, l255, l700, l1320, l1000000, e, e2, e3, r1, hT.1.2.1, T1.2.1, show (a1 < nI (tD t)) = False from eq_false (Int32.not_lt.mpr hx), xBT_e]
        exact no
    · have e2 : (nI p < mI) = False := eq_false (fun z => by
        have h5 := Int32.lt_iff_toInt_lt.mp z
        rw [nI_toInt (by omega), mI_toInt] at h5
        omega)
      simp (disch := omega) only [xB_s, xB2_s, xGet_s, xPut_s, xAld_s, xAst_s, xIf_t, xBool_s, l0, l1, l2, l3, l4, l5, l6, l7, l8, l9, l10, l11, l12, l13, l15, l16, l17, l19, l20, l25, l27, l30, l31, l32, l33, l39, l40, l60, l61, l99, l100, l120, l256, l999, l1999, l99999, lm, nI_add, pk_mul, nI_leI, nI_ltI, nI_eq, wuS_1, wuS_2, wuA_1, wuA_21, wuA_22, nI_m1, m1_nI, nIlt_m1, m1lt_nI, Nat.reduceEqDiff, Nat.reduceAdd, Nat.reduceMul, Nat.reduceSub, Nat.reduceLT, Nat.reduceLeDiff, reduceIte, if_true, if_false, Bool.false_eq_true, Nat.add_zero, Nat.zero_add, ne_eq, not_false_eq_true, not_true_eq_false, Nat.not_lt_zero, Nat.add_left_cancel_iff, Nat.add_right_cancel_iff, eq_self, upd_s, pk_sub, nI_pm, Nat.add_sub_cancel, List.length_cons, List.length_nil, Nat.add_eq_zero_iff, Nat.succ_ne_zero, and_false, false_and, l14, l18, l21, l23, l24, l26, l28, l29, l34, l35, l36, l41, l42, l43, l45, l47, l48, l49, l50, l51, l52, l57, l58, l59, l62, l63, l64, l96, l97, l98, l101, l102, l103, l104, l105, l106, l107, l108, l109, l110, l111, l112, l113, l114, l115, l116, l117, l118, l119, l121, l122, l127, l255, l700, l1320, l1000000, e2, r1, hT.1.2.1, T1.2.1, xBT_n, show (tD t ≤ p) = False from eq_false (by omega), show (p < tD t) = True from eq_true hp]
      exact rota_go h1 q1 z1 (Or.inr ⟨p, hp, rfl⟩)
end
