section
/-! ===== habits ===== -/
def PS (t : Tn) (y : Yw) (s : Sn) (o : wO) (wx wm : wS) : Prop := PQ t y o wx wm ∧ sOk t s ∧ SX s wx ∧ SM s wm
def fI (r : Option Nat) : Int32 := match r with
  | none => mI
  | some g => nI (g / 61 * 100 + g % 61)
theorem isF_0 {c : Nat → Bool} : isF c 0 0 none := Or.inl ⟨rfl, fun q _ h => absurd h (Nat.not_lt_zero q)⟩
theorem isF_n {c : Nat → Bool} {g : Nat} {q : Option Nat} (h : isF c 0 g q) (hg : c g = false) : isF c 0 (g + 1) q := by
  rcases h with ⟨h0, h1⟩ | ⟨r, h0, h1, h2, h3, h4⟩
  · refine Or.inl ⟨h0, fun q a1 a2 => ?_⟩
    by_cases e : q = g
    · rw [e]; exact hg
    · exact h1 q a1 (by omega)
  · exact Or.inr ⟨r, h0, h1, by omega, h3, h4⟩
theorem isF_y {c : Nat → Bool} {g : Nat} (h : isF c 0 g none) (hg : c g = true) : isF c 0 (g + 1) (some g) := by
  rcases h with ⟨h0, h1⟩ | ⟨r, h0, _⟩
  · exact Or.inr ⟨g, rfl, Nat.zero_le _, by omega, hg, fun q a1 a2 => h1 q a1 a2⟩
  · cases h0
theorem isF_s {c : Nat → Bool} {g r : Nat} (h : isF c 0 g (some r)) : isF c 0 (g + 1) (some r) ∧ r < g := by
  rcases h with ⟨h0, _⟩ | ⟨r', h0, h1, h2, h3, h4⟩
  · cases h0
  · obtain rfl := Option.some.inj h0
    exact ⟨Or.inr ⟨r, rfl, h1, by omega, h3, h4⟩, h2⟩
theorem m_habits {t : Tn} {y : Yw} {s : Sn} {o : wO} {wx w : wS} {a : Nat} (h : PS t y s o wx w) (h0 : w.1 0 = nI 0) (ha : a ≤ 2) : wpO (P_X10_habits_45 (fun z12 z13 z14 w15 => if z12 = nI 0 then J_X10_habits_107 z13 w15 else J_X10_habits_107 z14 w15) 5000 (nI a) (nI 0) mI (nI 0) w) (fun r => QM w r.2 ∧ r.2.1 0 = nI 0 ∧ ∃ q, isF (gU t y s) 0 (61 * tP t) q ∧ r.1 = if a = 0 then nI (cN (gU t y s) (61 * tP t)) else fI q) := by
  obtain ⟨hq, hs, hSx, hS⟩ := h
  have b1 := hq.1.1.1
  unfold P_X10_habits_45
  refine wp_for (61 * tP t) (fun g σ => ∃ (w' : wS) (q : Option Nat), σ = (nI a, nI (cN (gU t y s) g), fI q, nI g, w') ∧ QM w w' ∧ w'.1 0 = nI 0 ∧ isF (gU t y s) 0 g q) ?_ (Nat.zero_le _) (by omega) ⟨w, none, rfl, QM.refl, h0, isF_0⟩
  rintro g _ kk hi ⟨w', q, rfl, qm, z0, hF⟩ hkk
  show wpO (B_X10_habits_45 (fun x1 x2 x3 x4 w => kk (x1, x2, x3, x4, w)) _ (nI a) (nI (cN (gU t y s) g)) (fI q) (nI g) w') _
  have hq' := hq.q QX.refl qm
  have T' := hq'.2.2.1
  unfold B_X10_habits_45 J_X10_habits_92
  by_cases hlt : g < 61 * tP t
  · simp (disch := omega) only [xB_s, xB2_s, xGet_s, xPut_s, xAld_s, xAst_s, xIf_t, xBool_s, l0, l1, l2, l3, l4, l5, l6, l7, l8, l9, l10, l11, l12, l13, l15, l16, l17, l19, l20, l25, l27, l30, l31, l32, l33, l39, l40, l60, l61, l99, l100, l120, l256, l999, l1999, l99999, lm, nI_add, pk_mul, nI_leI, nI_ltI, nI_eq, wuS_1, wuS_2, wuA_1, wuA_21, wuA_22, nI_m1, m1_nI, nIlt_m1, m1lt_nI, Nat.reduceEqDiff, Nat.reduceAdd, Nat.reduceMul, Nat.reduceSub, Nat.reduceLT, Nat.reduceLeDiff, reduceIte, if_true, if_false, Bool.false_eq_true, Nat.add_zero, Nat.zero_add, ne_eq, not_false_eq_true, not_true_eq_false, Nat.not_lt_zero, Nat.add_left_cancel_iff, Nat.add_right_cancel_iff, eq_self, upd_s, pk_sub, nI_pm, Nat.add_sub_cancel, List.length_cons, List.length_nil, Nat.add_eq_zero_iff, Nat.succ_ne_zero, and_false, false_and, l14, l18, l21, l23, l24, l26, l28, l29, l34, l35, l36, l41, l42, l43, l45, l47, l48, l49, l50, l51, l52, l57, l58, l59, l62, l63, l64, l96, l97, l98, l101, l102, l103, l104, l105, l106, l107, l108, l109, l110, l111, l112, l113, l114, l115, l116, l117, l118, l119, l121, l122, l127, l255, l700, l1320, l1000000, T'.1, show (61 * tP t ≤ g) = False from eq_false (by omega)]
    refine wp_B2 (m_isGuess hq' hs (hS.q qm) z0 hlt) ?_
    rintro v w2 ⟨c1, c2, c3, c4, c5⟩
    have c3 : v = nI (gU t y s g).toNat := c3
    cases hg : gU t y s g with
    | false =>
      rw [c3, hg]
      simp (disch := omega) only [xB_s, xB2_s, xGet_s, xPut_s, xAld_s, xAst_s, xIf_t, xBool_s, l0, l1, l2, l3, l4, l5, l6, l7, l8, l9, l10, l11, l12, l13, l15, l16, l17, l19, l20, l25, l27, l30, l31, l32, l33, l39, l40, l60, l61, l99, l100, l120, l256, l999, l1999, l99999, lm, nI_add, pk_mul, nI_leI, nI_ltI, nI_eq, wuS_1, wuS_2, wuA_1, wuA_21, wuA_22, nI_m1, m1_nI, nIlt_m1, m1lt_nI, Nat.reduceEqDiff, Nat.reduceAdd, Nat.reduceMul, Nat.reduceSub, Nat.reduceLT, Nat.reduceLeDiff, reduceIte, if_true, if_false, Bool.false_eq_true, Nat.add_zero, Nat.zero_add, ne_eq, not_false_eq_true, not_true_eq_false, Nat.not_lt_zero, Nat.add_left_cancel_iff, Nat.add_right_cancel_iff, eq_self, upd_s, pk_sub, nI_pm, Nat.add_sub_cancel, List.length_cons, List.length_nil, Nat.add_eq_zero_iff, Nat.succ_ne_zero, and_false, false_and, l14, l18, l21, l23, l24, l26, l28, l29, l34, l35, l36, l41, l42, l43, l45, l47, l48, l49, l50, l51, l52, l57, l58, l59, l62, l63, l64, l96, l97, l98, l101, l102, l103, l104, l105, l106, l107, l108, l109, l110, l111, l112, l113, l114, l115, l116, l117, l118, l119, l121, l122, l127, l255, l700, l1320, l1000000, Bool.toNat_false]
      exact hkk hlt _ ⟨w2, q, by rw [cN_n hg], qm.trans c1, c2, isF_n hF hg⟩
    | true =>
      rw [c3, hg]
      have ed : xDiv (nI g) (nI 61) = some (nI (g / 61)) := by
        unfold xDiv
        rw [if_neg (by decide), pk_div (by omega) (by omega) (by omega)]
      have er := m_remP (j := g) (n := 61) (by omega) (by omega) (by omega)
      simp (disch := omega) only [xB_s, xB2_s, xGet_s, xPut_s, xAld_s, xAst_s, xIf_t, xBool_s, l0, l1, l2, l3, l4, l5, l6, l7, l8, l9, l10, l11, l12, l13, l15, l16, l17, l19, l20, l25, l27, l30, l31, l32, l33, l39, l40, l60, l61, l99, l100, l120, l256, l999, l1999, l99999, lm, nI_add, pk_mul, nI_leI, nI_ltI, nI_eq, wuS_1, wuS_2, wuA_1, wuA_21, wuA_22, nI_m1, m1_nI, nIlt_m1, m1lt_nI, Nat.reduceEqDiff, Nat.reduceAdd, Nat.reduceMul, Nat.reduceSub, Nat.reduceLT, Nat.reduceLeDiff, reduceIte, if_true, if_false, Bool.false_eq_true, Nat.add_zero, Nat.zero_add, ne_eq, not_false_eq_true, not_true_eq_false, Nat.not_lt_zero, Nat.add_left_cancel_iff, Nat.add_right_cancel_iff, eq_self, upd_s, pk_sub, nI_pm, Nat.add_sub_cancel, List.length_cons, List.length_nil, Nat.add_eq_zero_iff, Nat.succ_ne_zero, and_false, false_and, l14, l18, l21, l23, l24, l26, l28, l29, l34, l35, l36, l41, l42, l43, l45, l47, l48, l49, l50, l51, l52, l57, l58, l59, l62, l63, l64, l96, l97, l98, l101, l102, l103, l104, l105, l106, l107, l108, l109, l110, l111, l112, l113, l114, l115, l116, l117, l118, l119, l121, l122, l127, l255, l700, l1320, l1000000, Bool.toNat_true, ed, er]
      cases q with
      | none =>
        rw [if_pos (show fI none = mI from rfl)]
        exact hkk hlt _ ⟨w2, some g, by rw [cN_y hg]; rfl, qm.trans c1, c2, isF_y hF hg⟩
      | some r =>
        obtain ⟨f1, f2⟩ := isF_s hF
        rw [if_neg (show ¬ fI (some r) = mI from fun z => by
          have := nI_m1 (n := r / 61 * 100 + r % 61) (by omega)
          rw [show fI (some r) = nI (r / 61 * 100 + r % 61) from rfl, this] at z
          exact z)]
        exact hkk hlt _ ⟨w2, some r, by rw [cN_y hg], qm.trans c1, c2, f1⟩
  · obtain rfl : g = 61 * tP t := by omega
    simp (disch := omega) only [xB_s, xB2_s, xGet_s, xPut_s, xAld_s, xAst_s, xIf_t, xBool_s, l0, l1, l2, l3, l4, l5, l6, l7, l8, l9, l10, l11, l12, l13, l15, l16, l17, l19, l20, l25, l27, l30, l31, l32, l33, l39, l40, l60, l61, l99, l100, l120, l256, l999, l1999, l99999, lm, nI_add, pk_mul, nI_leI, nI_ltI, nI_eq, wuS_1, wuS_2, wuA_1, wuA_21, wuA_22, nI_m1, m1_nI, nIlt_m1, m1lt_nI, Nat.reduceEqDiff, Nat.reduceAdd, Nat.reduceMul, Nat.reduceSub, Nat.reduceLT, Nat.reduceLeDiff, reduceIte, if_true, if_false, Bool.false_eq_true, Nat.add_zero, Nat.zero_add, ne_eq, not_false_eq_true, not_true_eq_false, Nat.not_lt_zero, Nat.add_left_cancel_iff, Nat.add_right_cancel_iff, eq_self, upd_s, pk_sub, nI_pm, Nat.add_sub_cancel, List.length_cons, List.length_nil, Nat.add_eq_zero_iff, Nat.succ_ne_zero, and_false, false_and, l14, l18, l21, l23, l24, l26, l28, l29, l34, l35, l36, l41, l42, l43, l45, l47, l48, l49, l50, l51, l52, l57, l58, l59, l62, l63, l64, l96, l97, l98, l101, l102, l103, l104, l105, l106, l107, l108, l109, l110, l111, l112, l113, l114, l115, l116, l117, l118, l119, l121, l122, l127, l255, l700, l1320, l1000000, T'.1, Nat.le_refl, J_X10_habits_107]
    by_cases e : a = 0
    · rw [if_pos e]
      exact wp_some ⟨qm, z0, q, hF, by rw [if_pos e]⟩
    · rw [if_neg e]
      exact wp_some ⟨qm, z0, q, hF, by rw [if_neg e]⟩
theorem gU_at {t : Tn} {y : Yw} {s : Sn} {p h : Nat} (hh : h < 61) : gU t y s (61 * p + h) = (decide (h ≠ tH t p) && okD (tG t p h) y s 12) := by
  unfold gU
  rw [show (61 * p + h) % 61 = h by omega, show (61 * p + h) / 61 = p by omega]
theorem x_habits {t : Tn} {y : Yw} {s : Sn} {o : wO} {w wm : wS} {a : Nat} (h : PS t y s o w wm) (ha : a ≤ 1) : wpO (P_X9_habits_29 o (fun z17 z18 w19 => some (.inl (nI 100 * z17 + z18), w19)) (fun z20 z21 w22 => if z20 = nI 0 then J_X9_habits_111 o z21 w22 else J_X9_habits_111 o mI w22) 5000 (nI a) (nI 0) (nI 0) w) (fun r => QX w r.2 ∧ ∃ q, isF (gU t y s) 0 (61 * tP t) q ∧ r.1 = .inl (if a = 0 then nI (cN (gU t y s) (61 * tP t)) else fI q)) := by
  obtain ⟨hq, hs, hSx, hS⟩ := h
  have hh := hq
  obtain ⟨⟨ho, hy, hD⟩, ⟨hT, hY⟩, _⟩ := hh
  have b1 := ho.1
  unfold P_X9_habits_29
  refine wp_for (tP t) (fun p σ => ∃ (w' : wS), σ = (nI a, nI (cN (gU t y s) (61 * p)), nI p, w') ∧ QX w w' ∧ (a = 1 → ∀ g, g < 61 * p → gU t y s g = false)) ?_ (Nat.zero_le _) (by omega) ⟨w, rfl, QX.refl, fun _ g hg => absurd hg (Nat.not_lt_zero g)⟩
  rintro p _ kk hi ⟨w', rfl, qx, hn⟩ hkk
  show wpO (B_X9_habits_29 o (fun x1 x2 x3 w => kk (x1, x2, x3, w)) _ _ (nI a) (nI (cN (gU t y s) (61 * p))) (nI p) w') _
  have r9 := xRef_t (hT.q qx).2.1
  unfold B_X9_habits_29
  by_cases hlt : p < tP t
  · simp (disch := omega) only [xB_s, xB2_s, xGet_s, xPut_s, xAld_s, xAst_s, xIf_t, xBool_s, l0, l1, l2, l3, l4, l5, l6, l7, l8, l9, l10, l11, l12, l13, l15, l16, l17, l19, l20, l25, l27, l30, l31, l32, l33, l39, l40, l60, l61, l99, l100, l120, l256, l999, l1999, l99999, lm, nI_add, pk_mul, nI_leI, nI_ltI, nI_eq, wuS_1, wuS_2, wuA_1, wuA_21, wuA_22, nI_m1, m1_nI, nIlt_m1, m1lt_nI, Nat.reduceEqDiff, Nat.reduceAdd, Nat.reduceMul, Nat.reduceSub, Nat.reduceLT, Nat.reduceLeDiff, reduceIte, if_true, if_false, Bool.false_eq_true, Nat.add_zero, Nat.zero_add, ne_eq, not_false_eq_true, not_true_eq_false, Nat.not_lt_zero, Nat.add_left_cancel_iff, Nat.add_right_cancel_iff, eq_self, upd_s, pk_sub, nI_pm, Nat.add_sub_cancel, List.length_cons, List.length_nil, Nat.add_eq_zero_iff, Nat.succ_ne_zero, and_false, false_and, l14, l18, l21, l23, l24, l26, l28, l29, l34, l35, l36, l41, l42, l43, l45, l47, l48, l49, l50, l51, l52, l57, l58, l59, l62, l63, l64, l96, l97, l98, l101, l102, l103, l104, l105, l106, l107, l108, l109, l110, l111, l112, l113, l114, l115, l116, l117, l118, l119, l121, l122, l127, l255, l700, l1320, l1000000, r9, (hT.q qx).1.1, show (tP t ≤ p) = False from eq_false (by omega)]
    unfold P_X9_habits_43
    refine wp_for 61 (fun h σ => ∃ (w' : wS), σ = (nI a, nI (cN (gU t y s) (61 * p + h)), nI p, nI h, w') ∧ QX w w' ∧ (a = 1 → ∀ g, g < 61 * p + h → gU t y s g = false)) ?_ (Nat.zero_le _) (by omega) ⟨w', rfl, qx, hn⟩
    rintro h _ kk2 hi2 ⟨w2, rfl, qx2, hn2⟩ hkk2
    show wpO (B_X9_habits_43 o (fun x1 x2 x3 x4 w => kk2 (x1, x2, x3, x4, w)) _ _ (nI a) (nI (cN (gU t y s) (61 * p + h))) (nI p) (nI h) w2) _
    have hT2 := hT.q qx2
    have r9' := xRef_t hT2.2.1
    have hY2 : XY y (w2.2.1 14) := by rw [qx2.2.1 14 (by decide)]; exact hY
    have hH := ho.2.2.2.2.1 p
    unfold B_X9_habits_43 J_X9_habits_90
    by_cases hl2 : h < 61
    · simp (disch := omega) only [xB_s, xB2_s, xGet_s, xPut_s, xAld_s, xAst_s, xIf_t, xBool_s, l0, l1, l2, l3, l4, l5, l6, l7, l8, l9, l10, l11, l12, l13, l15, l16, l17, l19, l20, l25, l27, l30, l31, l32, l33, l39, l40, l60, l61, l99, l100, l120, l256, l999, l1999, l99999, lm, nI_add, pk_mul, nI_leI, nI_ltI, nI_eq, wuS_1, wuS_2, wuA_1, wuA_21, wuA_22, nI_m1, m1_nI, nIlt_m1, m1lt_nI, Nat.reduceEqDiff, Nat.reduceAdd, Nat.reduceMul, Nat.reduceSub, Nat.reduceLT, Nat.reduceLeDiff, reduceIte, if_true, if_false, Bool.false_eq_true, Nat.add_zero, Nat.zero_add, ne_eq, not_false_eq_true, not_true_eq_false, Nat.not_lt_zero, Nat.add_left_cancel_iff, Nat.add_right_cancel_iff, eq_self, upd_s, pk_sub, nI_pm, Nat.add_sub_cancel, List.length_cons, List.length_nil, Nat.add_eq_zero_iff, Nat.succ_ne_zero, and_false, false_and, l14, l18, l21, l23, l24, l26, l28, l29, l34, l35, l36, l41, l42, l43, l45, l47, l48, l49, l50, l51, l52, l57, l58, l59, l62, l63, l64, l96, l97, l98, l101, l102, l103, l104, l105, l106, l107, l108, l109, l110, l111, l112, l113, l114, l115, l116, l117, l118, l119, l121, l122, l127, l255, l700, l1320, l1000000, show (60 < h) = False from eq_false (by omega), r9', hT2.2.2 p hlt]
      have nx : gU t y s (61 * p + h) = false → ∀ w3, QX w w3 → wpO (kk2 (nI a, nI (cN (gU t y s) (61 * p + h)), nI p, nI (h + 1), w3)) (fun r => QX w r.2 ∧ ∃ q, isF (gU t y s) 0 (61 * tP t) q ∧ r.1 = .inl (if a = 0 then nI (cN (gU t y s) (61 * tP t)) else fI q)) := fun hg w3 hq3 => hkk2 hl2 _ ⟨w3, by rw [show 61 * p + (h + 1) = 61 * p + h + 1 by omega, cN_n hg], hq3, fun e g hg' => by
        by_cases z : g = 61 * p + h
        · rw [z]; exact hg
        · exact hn2 e g (by omega)⟩
      by_cases e : h = tH t p
      · rw [if_pos e]
        exact nx (by rw [gU_at hl2, decide_eq_false (fun z => z e)]; rfl) w2 qx2
      · rw [if_neg e]
        refine wp_B2 (x_asSeen hT2 ho hy hD hs (hSx.q qx2) hY2 hlt (by omega)) ?_
        rintro v w3 ⟨c1, c2, c3⟩
        have c2 : v = nI (okD (tG t p h) y s 12).toNat := c2
        have hg : gU t y s (61 * p + h) = okD (tG t p h) y s 12 := by rw [gU_at hl2, decide_eq_true e]; rfl
        cases hok : okD (tG t p h) y s 12 with
        | false =>
          rw [c2, hok]
          simp (disch := omega) only [xB_s, xB2_s, xGet_s, xPut_s, xAld_s, xAst_s, xIf_t, xBool_s, l0, l1, l2, l3, l4, l5, l6, l7, l8, l9, l10, l11, l12, l13, l15, l16, l17, l19, l20, l25, l27, l30, l31, l32, l33, l39, l40, l60, l61, l99, l100, l120, l256, l999, l1999, l99999, lm, nI_add, pk_mul, nI_leI, nI_ltI, nI_eq, wuS_1, wuS_2, wuA_1, wuA_21, wuA_22, nI_m1, m1_nI, nIlt_m1, m1lt_nI, Nat.reduceEqDiff, Nat.reduceAdd, Nat.reduceMul, Nat.reduceSub, Nat.reduceLT, Nat.reduceLeDiff, reduceIte, if_true, if_false, Bool.false_eq_true, Nat.add_zero, Nat.zero_add, ne_eq, not_false_eq_true, not_true_eq_false, Nat.not_lt_zero, Nat.add_left_cancel_iff, Nat.add_right_cancel_iff, eq_self, upd_s, pk_sub, nI_pm, Nat.add_sub_cancel, List.length_cons, List.length_nil, Nat.add_eq_zero_iff, Nat.succ_ne_zero, and_false, false_and, l14, l18, l21, l23, l24, l26, l28, l29, l34, l35, l36, l41, l42, l43, l45, l47, l48, l49, l50, l51, l52, l57, l58, l59, l62, l63, l64, l96, l97, l98, l101, l102, l103, l104, l105, l106, l107, l108, l109, l110, l111, l112, l113, l114, l115, l116, l117, l118, l119, l121, l122, l127, l255, l700, l1320, l1000000, Bool.toNat_false]
          exact nx (by rw [hg, hok]) w3 (qx2.trans c1)
        | true =>
          rw [hok] at hg
          rw [c2, hok]
          simp (disch := omega) only [xB_s, xB2_s, xGet_s, xPut_s, xAld_s, xAst_s, xIf_t, xBool_s, l0, l1, l2, l3, l4, l5, l6, l7, l8, l9, l10, l11, l12, l13, l15, l16, l17, l19, l20, l25, l27, l30, l31, l32, l33, l39, l40, l60, l61, l99, l100, l120, l256, l999, l1999, l99999, lm, nI_add, pk_mul, nI_leI, nI_ltI, nI_eq, wuS_1, wuS_2, wuA_1, wuA_21, wuA_22, nI_m1, m1_nI, nIlt_m1, m1lt_nI, Nat.reduceEqDiff, Nat.reduceAdd, Nat.reduceMul, Nat.reduceSub, Nat.reduceLT, Nat.reduceLeDiff, reduceIte, if_true, if_false, Bool.false_eq_true, Nat.add_zero, Nat.zero_add, ne_eq, not_false_eq_true, not_true_eq_false, Nat.not_lt_zero, Nat.add_left_cancel_iff, Nat.add_right_cancel_iff, eq_self, upd_s, pk_sub, nI_pm, Nat.add_sub_cancel, List.length_cons, List.length_nil, Nat.add_eq_zero_iff, Nat.succ_ne_zero, and_false, false_and, l14, l18, l21, l23, l24, l26, l28, l29, l34, l35, l36, l41, l42, l43, l45, l47, l48, l49, l50, l51, l52, l57, l58, l59, l62, l63, l64, l96, l97, l98, l101, l102, l103, l104, l105, l106, l107, l108, l109, l110, l111, l112, l113, l114, l115, l116, l117, l118, l119, l121, l122, l127, l255, l700, l1320, l1000000, Bool.toNat_true]
          by_cases e1 : a = 1
          · rw [if_pos e1]
            refine wp_some ⟨qx2.trans c1, some (61 * p + h), Or.inr ⟨61 * p + h, rfl, Nat.zero_le _, by omega, hg, fun q _ hq => hn2 e1 q hq⟩, ?_⟩
            rw [if_neg (by omega)]
            show Sum.inl (nI (100 * p + h)) = Sum.inl (nI ((61 * p + h) / 61 * 100 + (61 * p + h) % 61))
            rw [show (61 * p + h) / 61 * 100 + (61 * p + h) % 61 = 100 * p + h by omega]
          · rw [if_neg e1]
            exact hkk2 hl2 _ ⟨w3, by rw [show 61 * p + (h + 1) = 61 * p + h + 1 by omega, cN_y hg], qx2.trans c1, fun z => absurd z e1⟩
    · obtain rfl : h = 61 := by omega
      simp (disch := omega) only [xB_s, xB2_s, xGet_s, xPut_s, xAld_s, xAst_s, xIf_t, xBool_s, l0, l1, l2, l3, l4, l5, l6, l7, l8, l9, l10, l11, l12, l13, l15, l16, l17, l19, l20, l25, l27, l30, l31, l32, l33, l39, l40, l60, l61, l99, l100, l120, l256, l999, l1999, l99999, lm, nI_add, pk_mul, nI_leI, nI_ltI, nI_eq, wuS_1, wuS_2, wuA_1, wuA_21, wuA_22, nI_m1, m1_nI, nIlt_m1, m1lt_nI, Nat.reduceEqDiff, Nat.reduceAdd, Nat.reduceMul, Nat.reduceSub, Nat.reduceLT, Nat.reduceLeDiff, reduceIte, if_true, if_false, Bool.false_eq_true, Nat.add_zero, Nat.zero_add, ne_eq, not_false_eq_true, not_true_eq_false, Nat.not_lt_zero, Nat.add_left_cancel_iff, Nat.add_right_cancel_iff, eq_self, upd_s, pk_sub, nI_pm, Nat.add_sub_cancel, List.length_cons, List.length_nil, Nat.add_eq_zero_iff, Nat.succ_ne_zero, and_false, false_and, l14, l18, l21, l23, l24, l26, l28, l29, l34, l35, l36, l41, l42, l43, l45, l47, l48, l49, l50, l51, l52, l57, l58, l59, l62, l63, l64, l96, l97, l98, l101, l102, l103, l104, l105, l106, l107, l108, l109, l110, l111, l112, l113, l114, l115, l116, l117, l118, l119, l121, l122, l127, l255, l700, l1320, l1000000]
      exact hkk hlt _ ⟨w2, by rw [show 61 * (p + 1) = 61 * p + 61 by omega], qx2, fun e g hg => hn2 e g (by omega)⟩
  · obtain rfl : p = tP t := by omega
    simp (disch := omega) only [xB_s, xB2_s, xGet_s, xPut_s, xAld_s, xAst_s, xIf_t, xBool_s, l0, l1, l2, l3, l4, l5, l6, l7, l8, l9, l10, l11, l12, l13, l15, l16, l17, l19, l20, l25, l27, l30, l31, l32, l33, l39, l40, l60, l61, l99, l100, l120, l256, l999, l1999, l99999, lm, nI_add, pk_mul, nI_leI, nI_ltI, nI_eq, wuS_1, wuS_2, wuA_1, wuA_21, wuA_22, nI_m1, m1_nI, nIlt_m1, m1lt_nI, Nat.reduceEqDiff, Nat.reduceAdd, Nat.reduceMul, Nat.reduceSub, Nat.reduceLT, Nat.reduceLeDiff, reduceIte, if_true, if_false, Bool.false_eq_true, Nat.add_zero, Nat.zero_add, ne_eq, not_false_eq_true, not_true_eq_false, Nat.not_lt_zero, Nat.add_left_cancel_iff, Nat.add_right_cancel_iff, eq_self, upd_s, pk_sub, nI_pm, Nat.add_sub_cancel, List.length_cons, List.length_nil, Nat.add_eq_zero_iff, Nat.succ_ne_zero, and_false, false_and, l14, l18, l21, l23, l24, l26, l28, l29, l34, l35, l36, l41, l42, l43, l45, l47, l48, l49, l50, l51, l52, l57, l58, l59, l62, l63, l64, l96, l97, l98, l101, l102, l103, l104, l105, l106, l107, l108, l109, l110, l111, l112, l113, l114, l115, l116, l117, l118, l119, l121, l122, l127, l255, l700, l1320, l1000000, r9, (hT.q qx).1.1, Nat.le_refl, J_X9_habits_111]
    by_cases e : a = 0
    · rw [if_pos e]
      obtain ⟨q, hq⟩ : ∃ q, isF (gU t y s) 0 (61 * tP t) q := by
        have : ∀ n, ∃ q, isF (gU t y s) 0 n q := fun n => by
          induction n with
          | zero => exact ⟨none, isF_0⟩
          | succ n ih =>
            obtain ⟨q, ih⟩ := ih
            cases hg : gU t y s n with
            | false => exact ⟨q, isF_n ih hg⟩
            | true =>
              cases q with
              | none => exact ⟨some n, isF_y ih hg⟩
              | some r => exact ⟨some r, (isF_s ih).1⟩
        exact this _
      exact wp_some ⟨qx, q, hq, by rw [if_pos e]⟩
    · rw [if_neg e]
      exact wp_some ⟨qx, none, Or.inl ⟨rfl, fun g _ hg => hn (by omega) g hg⟩, by rw [if_neg e]; rfl⟩
theorem q_habits {t : Tn} {y : Yw} {s : Sn} {o : wO} {wx wm : wS} {a1 : Int32} (h : PS t y s o wx wm) : R2 (L_X9_habits o a1 wx) (L_X10_habits a1 wm) (QA cdN wx wm) := by
  obtain ⟨hq, hs, hSx, hS⟩ := h
  obtain ⟨w1, e1, q1, z1, T1, Y1, h1⟩ := hq.put
  have hh := hq
  obtain ⟨⟨ho, hy, hD⟩, ⟨hT, hY⟩, _⟩ := hh
  have hp1 : PS t y s o wx w1 := ⟨h1, hs, hSx, hS.q q1⟩
  unfold L_X9_habits L_X10_habits
  simp only [xB_s, xB2_s, xIf_t, xBT_n, xBT_e, l0, l1, l2, l3, l4, l5, l6, l7, l8, l9, l10, l11, l12, l13, l15, l16, l17, l19, l20, l25, l27, l30, l31, l32, l33, l39, l40, l60, l61, l99, l100, l120, l256, l999, l1999, l99999, lm, l14, l18, l21, l23, l24, l26, l28, l29, l34, l35, l36, l41, l42, l43, l45, l47, l48, l49, l50, l51, l52, l57, l58, l59, l62, l63, l64, l96, l97, l98, l101, l102, l103, l104, l105, l106, l107, l108, l109, l110, l111, l112, l113, l114, l115, l116, l117, l118, l119, l121, l122, l127, l255, l700, l1320, l1000000, e1]
  refine g_what (by omega) z1 (by simp (disch := omega) only [xB_s, xB2_s, xGet_s, xPut_s, xAld_s, xAst_s, xIf_t, xBool_s, l0, l1, l2, l3, l4, l5, l6, l7, l8, l9, l10, l11, l12, l13, l15, l16, l17, l19, l20, l25, l27, l30, l31, l32, l33, l39, l40, l60, l61, l99, l100, l120, l256, l999, l1999, l99999, lm, nI_add, pk_mul, nI_leI, nI_ltI, nI_eq, wuS_1, wuS_2, wuA_1, wuA_21, wuA_22, nI_m1, m1_nI, nIlt_m1, m1lt_nI, Nat.reduceEqDiff, Nat.reduceAdd, Nat.reduceMul, Nat.reduceSub, Nat.reduceLT, Nat.reduceLeDiff, reduceIte, if_true, if_false, Bool.false_eq_true, Nat.add_zero, Nat.zero_add, ne_eq, not_false_eq_true, not_true_eq_false, Nat.not_lt_zero, Nat.add_left_cancel_iff, Nat.add_right_cancel_iff, eq_self, upd_s, pk_sub, nI_pm, Nat.add_sub_cancel, List.length_cons, List.length_nil, Nat.add_eq_zero_iff, Nat.succ_ne_zero, and_false, false_and, l14, l18, l21, l23, l24, l26, l28, l29, l34, l35, l36, l41, l42, l43, l45, l47, l48, l49, l50, l51, l52, l57, l58, l59, l62, l63, l64, l96, l97, l98, l101, l102, l103, l104, l105, l106, l107, l108, l109, l110, l111, l112, l113, l114, l115, l116, l117, l118, l119, l121, l122, l127, l255, l700, l1320, l1000000]; exact QA.no q1) ?_
  rintro a ha rfl
  by_cases e2 : a = 2
  · subst e2
    simp (disch := omega) only [xB_s, xB2_s, xGet_s, xPut_s, xAld_s, xAst_s, xIf_t, xBool_s, l0, l1, l2, l3, l4, l5, l6, l7, l8, l9, l10, l11, l12, l13, l15, l16, l17, l19, l20, l25, l27, l30, l31, l32, l33, l39, l40, l60, l61, l99, l100, l120, l256, l999, l1999, l99999, lm, nI_add, pk_mul, nI_leI, nI_ltI, nI_eq, wuS_1, wuS_2, wuA_1, wuA_21, wuA_22, nI_m1, m1_nI, nIlt_m1, m1lt_nI, Nat.reduceEqDiff, Nat.reduceAdd, Nat.reduceMul, Nat.reduceSub, Nat.reduceLT, Nat.reduceLeDiff, reduceIte, if_true, if_false, Bool.false_eq_true, Nat.add_zero, Nat.zero_add, ne_eq, not_false_eq_true, not_true_eq_false, Nat.not_lt_zero, Nat.add_left_cancel_iff, Nat.add_right_cancel_iff, eq_self, upd_s, pk_sub, nI_pm, Nat.add_sub_cancel, List.length_cons, List.length_nil, Nat.add_eq_zero_iff, Nat.succ_ne_zero, and_false, false_and, l14, l18, l21, l23, l24, l26, l28, l29, l34, l35, l36, l41, l42, l43, l45, l47, l48, l49, l50, l51, l52, l57, l58, l59, l62, l63, l64, l96, l97, l98, l101, l102, l103, l104, l105, l106, l107, l108, l109, l110, l111, l112, l113, l114, l115, l116, l117, l118, l119, l121, l122, l127, l255, l700, l1320, l1000000]
    refine R2.x2 (x_asSeen0 hT ho hy hD hs hSx hY) ?_
    rintro v wx' ⟨c1, c2⟩
    have c2 : v = nI (okD t y s 12).toNat := c2
    refine R2.m (m_tries Y1) ?_
    rintro w6 ⟨d1, d2, d3, d4⟩
    have k16 : ∀ k, k < 33 → w6.2.1 16 k = w1.2.1 16 k := fun k hk => d1.2 k (Or.inl hk)
    refine R2.m2 (m_isSeen (y := y) (s := s) ho hy hD hs ((hS.q q1).of (d2 58) (by rw [d3 25 (by decide)])) (d1.T T1) (d1.X h1.em) (Y1.of (fun k _ hk => k16 k (by omega))) d4) ?_
    rintro u w8 ⟨f1, f2, f3, f4⟩
    have f3 : u = nI (okD t y s 12).toNat := f3
    have qq : QM w1 w8 := (QM.f d1).trans ⟨f1.mono (by decide) (by decide), f2, Or.inl (f1.1 55 (by decide))⟩
    have zz : w8.1 0 = nI 0 := by rw [f1.1 0 (by decide), d2 0]; exact z1
    rw [c2, f3]
    cases okD t y s 12 with
    | false =>
      simp (disch := omega) only [xB_s, xB2_s, xGet_s, xPut_s, xAld_s, xAst_s, xIf_t, xBool_s, l0, l1, l2, l3, l4, l5, l6, l7, l8, l9, l10, l11, l12, l13, l15, l16, l17, l19, l20, l25, l27, l30, l31, l32, l33, l39, l40, l60, l61, l99, l100, l120, l256, l999, l1999, l99999, lm, nI_add, pk_mul, nI_leI, nI_ltI, nI_eq, wuS_1, wuS_2, wuA_1, wuA_21, wuA_22, nI_m1, m1_nI, nIlt_m1, m1lt_nI, Nat.reduceEqDiff, Nat.reduceAdd, Nat.reduceMul, Nat.reduceSub, Nat.reduceLT, Nat.reduceLeDiff, reduceIte, if_true, if_false, Bool.false_eq_true, Nat.add_zero, Nat.zero_add, ne_eq, not_false_eq_true, not_true_eq_false, Nat.not_lt_zero, Nat.add_left_cancel_iff, Nat.add_right_cancel_iff, eq_self, upd_s, pk_sub, nI_pm, Nat.add_sub_cancel, List.length_cons, List.length_nil, Nat.add_eq_zero_iff, Nat.succ_ne_zero, and_false, false_and, l14, l18, l21, l23, l24, l26, l28, l29, l34, l35, l36, l41, l42, l43, l45, l47, l48, l49, l50, l51, l52, l57, l58, l59, l62, l63, l64, l96, l97, l98, l101, l102, l103, l104, l105, l106, l107, l108, l109, l110, l111, l112, l113, l114, l115, l116, l117, l118, l119, l121, l122, l127, l255, l700, l1320, l1000000, Bool.toNat_false, J_X9_habits_24, J_X10_habits_37]
      exact QA.ok c1 (q1.trans qq) zz rfl
    | true =>
      simp (disch := omega) only [xB_s, xB2_s, xGet_s, xPut_s, xAld_s, xAst_s, xIf_t, xBool_s, l0, l1, l2, l3, l4, l5, l6, l7, l8, l9, l10, l11, l12, l13, l15, l16, l17, l19, l20, l25, l27, l30, l31, l32, l33, l39, l40, l60, l61, l99, l100, l120, l256, l999, l1999, l99999, lm, nI_add, pk_mul, nI_leI, nI_ltI, nI_eq, wuS_1, wuS_2, wuA_1, wuA_21, wuA_22, nI_m1, m1_nI, nIlt_m1, m1lt_nI, Nat.reduceEqDiff, Nat.reduceAdd, Nat.reduceMul, Nat.reduceSub, Nat.reduceLT, Nat.reduceLeDiff, reduceIte, if_true, if_false, Bool.false_eq_true, Nat.add_zero, Nat.zero_add, ne_eq, not_false_eq_true, not_true_eq_false, Nat.not_lt_zero, Nat.add_left_cancel_iff, Nat.add_right_cancel_iff, eq_self, upd_s, pk_sub, nI_pm, Nat.add_sub_cancel, List.length_cons, List.length_nil, Nat.add_eq_zero_iff, Nat.succ_ne_zero, and_false, false_and, l14, l18, l21, l23, l24, l26, l28, l29, l34, l35, l36, l41, l42, l43, l45, l47, l48, l49, l50, l51, l52, l57, l58, l59, l62, l63, l64, l96, l97, l98, l101, l102, l103, l104, l105, l106, l107, l108, l109, l110, l111, l112, l113, l114, l115, l116, l117, l118, l119, l121, l122, l127, l255, l700, l1320, l1000000, Bool.toNat_true, J_X9_habits_24, J_X10_habits_37]
      exact QA.ok c1 (q1.trans qq) zz rfl
  · simp (disch := omega) only [xB_s, xB2_s, xGet_s, xPut_s, xAld_s, xAst_s, xIf_t, xBool_s, l0, l1, l2, l3, l4, l5, l6, l7, l8, l9, l10, l11, l12, l13, l15, l16, l17, l19, l20, l25, l27, l30, l31, l32, l33, l39, l40, l60, l61, l99, l100, l120, l256, l999, l1999, l99999, lm, nI_add, pk_mul, nI_leI, nI_ltI, nI_eq, wuS_1, wuS_2, wuA_1, wuA_21, wuA_22, nI_m1, m1_nI, nIlt_m1, m1lt_nI, Nat.reduceEqDiff, Nat.reduceAdd, Nat.reduceMul, Nat.reduceSub, Nat.reduceLT, Nat.reduceLeDiff, reduceIte, if_true, if_false, Bool.false_eq_true, Nat.add_zero, Nat.zero_add, ne_eq, not_false_eq_true, not_true_eq_false, Nat.not_lt_zero, Nat.add_left_cancel_iff, Nat.add_right_cancel_iff, eq_self, upd_s, pk_sub, nI_pm, Nat.add_sub_cancel, List.length_cons, List.length_nil, Nat.add_eq_zero_iff, Nat.succ_ne_zero, and_false, false_and, l14, l18, l21, l23, l24, l26, l28, l29, l34, l35, l36, l41, l42, l43, l45, l47, l48, l49, l50, l51, l52, l57, l58, l59, l62, l63, l64, l96, l97, l98, l101, l102, l103, l104, l105, l106, l107, l108, l109, l110, l111, l112, l113, l114, l115, l116, l117, l118, l119, l121, l122, l127, l255, l700, l1320, l1000000, e2]
    refine R2.wp (x_habits ⟨hq, hs, hSx, hS⟩ (show a ≤ 1 by omega)) (m_habits hp1 z1 ha) ?_
    rintro ⟨rx, wx'⟩ ⟨rm, wm'⟩ ⟨c1, q, c2, c3⟩ ⟨d1, d2, q', d3, d4⟩
    obtain rfl := isF_eq c2 d3
    have c3 : rx = .inl (if a = 0 then nI (cN (gU t y s) (61 * tP t)) else fI q) := c3
    subst c3
    exact ⟨c1, q1.trans d1, d2, d4⟩
end
