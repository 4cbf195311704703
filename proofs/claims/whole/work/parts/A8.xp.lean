section
/-! ===== expressions, the class ===== -/
abbrev xPK : List Nat := [101, 102, 104, 202, 203, 204]
def eA (A : Nat → Int32) (m : Nat) (E : List Op) : Prop := ∀ (j : Nat) (x : Op), E[j]? = some x → A (m + j) = xSt x
theorem eA_nil {A : Nat → Int32} {m : Nat} : eA A m [] := fun j x h => by simp at h
theorem eA_app {A : Nat → Int32} {m : Nat} {E F : List Op} (h1 : eA A m E) (h2 : eA A (m + E.length) F) : eA A m (E ++ F) := by
  intro j x h
  rcases Nat.lt_or_ge j E.length with e | e
  · rw [List.getElem?_append_left e] at h
    exact h1 j x h
  · rw [List.getElem?_append_right e] at h
    have := h2 _ x h
    rw [show m + E.length + (j - E.length) = m + j by omega] at this
    exact this
theorem eA_of {A A' : Nat → Int32} {m N : Nat} {E : List Op} (h : eA A m E) (hN : m + E.length ≤ N) (e : ∀ i, i < N → A' i = A i) : eA A' m E := by
  intro j x hx
  have : j < E.length := by
    rcases Nat.lt_or_ge j E.length with q | q
    · exact q
    · rw [List.getElem?_eq_none q] at hx; cases hx
  rw [e _ (by omega)]
  exact h j x hx
theorem eA_one {A : Nat → Int32} {m : Nat} {x : Op} (h : A m = xSt x) : eA A m [x] := by
  intro j y hy
  cases j with
  | zero =>
    obtain rfl := Option.some.inj hy
    exact h
  | succ j => simp at hy
def mnB (mn : Nat) : Nat := if mn = 6 then 1 else 0
def XP (b : Nat → Nat) (n mn s m : Nat) (w : wS) : Prop := TX b n s w ∧ w.1 101 = nI 0 ∧ w.1 104 = nI m ∧ w.1 105 = nI (mnB mn) ∧ m + 5 ≤ s
/-- what has been read so far: E since w -/
def XG (b : Nat → Nat) (n mn s m : Nat) (E : List Op) (w w' : wS) : Prop := Fr xPK [4] w w' ∧ XP b n mn s (m + E.length) w' ∧ (∀ i, i < m → w'.2.1 4 i = w.2.1 4 i) ∧ eA (w'.2.1 4) m E
def XF (f : Nat × Nat) (w w' : wS) : Prop := Fr xPK [4] w w' ∧ w'.1 101 = nI f.1 ∧ w'.1 102 = nI f.2
def XQ (b : Nat → Nat) (n mn m : Nat) (w : wS) (res : Res) (r : Int32 × wS) : Prop := match res with
  | .inl f => r.1 = nI 0 ∧ XF f w r.2
  | .inr (E, s') => r.1 = nI 1 ∧ XG b n mn s' m E w r.2
theorem XG.t {b : Nat → Nat} {n mn s s' m : Nat} {E F : List Op} {w w' w'' : wS} (h : XG b n mn s m E w w') (h' : XG b n mn s' (m + E.length) F w' w'') : XG b n mn s' m (E ++ F) w w'' := by
  refine ⟨h.1.trans h'.1, ?_, fun i hi => (h'.2.2.1 i (by omega)).trans (h.2.2.1 i hi), eA_app (eA_of h.2.2.2 (Nat.le_refl _) h'.2.2.1) h'.2.2.2⟩
  rw [List.length_append, ← Nat.add_assoc]
  exact h'.2.1
theorem XG.f {b : Nat → Nat} {n mn s m : Nat} {E : List Op} {f : Nat × Nat} {w w' w'' : wS} (h : XG b n mn s m E w w') (h' : XF f w' w'') : XF f w w'' := ⟨h.1.trans h'.1, h'.2⟩
theorem XP.r {b : Nat → Nat} {n mn s m : Nat} {w : wS} (h : XP b n mn s m w) : XG b n mn s m [] w w := ⟨Fr.refl, h, fun _ _ => rfl, eA_nil⟩
theorem x_advT {b : Nat → Nat} {n mn s m : Nat} {o : wO} {w : wS} (h : XP b n mn s m w) : wpO (L_X7_advance o w) (fun w' => XG b n mn (nxT b n s) m [] w w') := by
  obtain ⟨⟨h1, h2, h3, h4, h5⟩, g1, g2, g3, g4⟩ := h
  refine wp_mono (x_adv h1 (szT_le h2) h4 h5) ?_
  rintro w' ⟨F, T⟩
  refine ⟨F.mono (by decide) (by simp), ⟨T, (F.1 101 (by decide)).trans g1, (F.1 104 (by decide)).trans g2, (F.1 105 (by decide)).trans g3, ?_⟩, fun i _ => by rw [F.2.1 4 (by simp)], eA_nil⟩
  have := nxT_le (b := b) h2
  show m + 5 ≤ _
  omega
theorem x_refuse {b : Nat → Nat} {n s k : Nat} {o : wO} {w : wS} (h : TX b n s w) : wpO (L_X2_refuse o (nI k) w) (fun r => r.1 = nI 0 ∧ XF (k, s) w r.2) := by
  unfold L_X2_refuse
  simp (disch := omega) only [xB_s, xB2_s, xGet_s, xPut_s, xAld_s, xAst_s, xIf_t, xBool_s, l0, l1, l2, l3, l4, l5, l6, l7, l8, l9, l10, l11, l12, l13, l15, l16, l17, l19, l20, l25, l27, l30, l31, l32, l33, l39, l40, l60, l61, l99, l100, l120, l256, l999, l1999, l99999, lm, nI_add, pk_mul, nI_leI, nI_ltI, nI_eq, wuS_1, wuS_2, wuA_1, wuA_21, wuA_22, nI_m1, m1_nI, nIlt_m1, m1lt_nI, Nat.reduceEqDiff, Nat.reduceAdd, Nat.reduceMul, Nat.reduceSub, Nat.reduceLT, Nat.reduceLeDiff, reduceIte, if_true, if_false, Bool.false_eq_true, Nat.add_zero, Nat.zero_add, ne_eq, not_false_eq_true, not_true_eq_false, Nat.not_lt_zero, Nat.add_left_cancel_iff, Nat.add_right_cancel_iff, eq_self, upd_s, pk_sub, nI_pm, Nat.add_sub_cancel, List.length_cons, List.length_nil, Nat.add_eq_zero_iff, Nat.succ_ne_zero, and_false, false_and, l14, l18, l21, l23, l24, l26, l28, l29, l34, l35, l36, l41, l42, l43, l45, l47, l48, l49, l50, l51, l52, l57, l58, l59, l62, l63, l64, l96, l97, l98, l101, l102, l103, l104, l105, l106, l107, l108, l109, l110, l111, l112, l113, l114, l115, l116, l117, l118, l119, l121, l122, l127, l255, l700, l1320, l1000000, h.2.2.2.1]
  refine wp_some ⟨rfl, (Fr.refl.S (by decide)).S (by decide), ?_, wuS_at⟩
  show (wuS (wuS w 101 (nI k)) 102 (nI s)).1 101 = nI k
  simp (disch := omega) only [xB_s, xB2_s, xGet_s, xPut_s, xAld_s, xAst_s, xIf_t, xBool_s, l0, l1, l2, l3, l4, l5, l6, l7, l8, l9, l10, l11, l12, l13, l15, l16, l17, l19, l20, l25, l27, l30, l31, l32, l33, l39, l40, l60, l61, l99, l100, l120, l256, l999, l1999, l99999, lm, nI_add, pk_mul, nI_leI, nI_ltI, nI_eq, wuS_1, wuS_2, wuA_1, wuA_21, wuA_22, nI_m1, m1_nI, nIlt_m1, m1lt_nI, Nat.reduceEqDiff, Nat.reduceAdd, Nat.reduceMul, Nat.reduceSub, Nat.reduceLT, Nat.reduceLeDiff, reduceIte, if_true, if_false, Bool.false_eq_true, Nat.add_zero, Nat.zero_add, ne_eq, not_false_eq_true, not_true_eq_false, Nat.not_lt_zero, Nat.add_left_cancel_iff, Nat.add_right_cancel_iff, eq_self, upd_s, pk_sub, nI_pm, Nat.add_sub_cancel, List.length_cons, List.length_nil, Nat.add_eq_zero_iff, Nat.succ_ne_zero, and_false, false_and, l14, l18, l21, l23, l24, l26, l28, l29, l34, l35, l36, l41, l42, l43, l45, l47, l48, l49, l50, l51, l52, l57, l58, l59, l62, l63, l64, l96, l97, l98, l101, l102, l103, l104, l105, l106, l107, l108, l109, l110, l111, l112, l113, l114, l115, l116, l117, l118, l119, l121, l122, l127, l255, l700, l1320, l1000000]
theorem x_emit {b : Nat → Nat} {n mn s m : Nat} {o : wO} {w : wS} {x : Op} {v : Int32} (h : TX b n s w) (h1 : w.1 101 = nI 0) (h4 : w.1 104 = nI m) (h5 : w.1 105 = nI (mnB mn)) (hm : m + 6 ≤ s) (hv : v = xSt x) : wpO (L_X2_emit o v w) (fun r => r.1 = nI 1 ∧ XG b n mn s m [x] w r.2) := by
  have hn := h.1.1
  have hs := h.2.1
  unfold L_X2_emit
  simp (disch := omega) only [xB_s, xB2_s, xGet_s, xPut_s, xAld_s, xAst_s, xIf_t, xBool_s, l0, l1, l2, l3, l4, l5, l6, l7, l8, l9, l10, l11, l12, l13, l15, l16, l17, l19, l20, l25, l27, l30, l31, l32, l33, l39, l40, l60, l61, l99, l100, l120, l256, l999, l1999, l99999, lm, nI_add, pk_mul, nI_leI, nI_ltI, nI_eq, wuS_1, wuS_2, wuA_1, wuA_21, wuA_22, nI_m1, m1_nI, nIlt_m1, m1lt_nI, Nat.reduceEqDiff, Nat.reduceAdd, Nat.reduceMul, Nat.reduceSub, Nat.reduceLT, Nat.reduceLeDiff, reduceIte, if_true, if_false, Bool.false_eq_true, Nat.add_zero, Nat.zero_add, ne_eq, not_false_eq_true, not_true_eq_false, Nat.not_lt_zero, Nat.add_left_cancel_iff, Nat.add_right_cancel_iff, eq_self, upd_s, pk_sub, nI_pm, Nat.add_sub_cancel, List.length_cons, List.length_nil, Nat.add_eq_zero_iff, Nat.succ_ne_zero, and_false, false_and, l14, l18, l21, l23, l24, l26, l28, l29, l34, l35, l36, l41, l42, l43, l45, l47, l48, l49, l50, l51, l52, l57, l58, l59, l62, l63, l64, l96, l97, l98, l101, l102, l103, l104, l105, l106, l107, l108, l109, l110, l111, l112, l113, l114, l115, l116, l117, l118, l119, l121, l122, l127, l255, l700, l1320, l1000000, h4, show (m < 700) = True from eq_true (by omega)]
  refine wp_some ⟨rfl, (Fr.refl.A (by decide)).S (by decide), ⟨h.of (fun k k1 k2 => ?_) ?_, ?_, ?_, ?_, by show m + 1 + 5 ≤ s; omega⟩, fun i hi => ?_, eA_one ?_⟩
  · simp (disch := omega) only [xB_s, xB2_s, xGet_s, xPut_s, xAld_s, xAst_s, xIf_t, xBool_s, l0, l1, l2, l3, l4, l5, l6, l7, l8, l9, l10, l11, l12, l13, l15, l16, l17, l19, l20, l25, l27, l30, l31, l32, l33, l39, l40, l60, l61, l99, l100, l120, l256, l999, l1999, l99999, lm, nI_add, pk_mul, nI_leI, nI_ltI, nI_eq, wuS_1, wuS_2, wuA_1, wuA_21, wuA_22, nI_m1, m1_nI, nIlt_m1, m1lt_nI, Nat.reduceEqDiff, Nat.reduceAdd, Nat.reduceMul, Nat.reduceSub, Nat.reduceLT, Nat.reduceLeDiff, reduceIte, if_true, if_false, Bool.false_eq_true, Nat.add_zero, Nat.zero_add, ne_eq, not_false_eq_true, not_true_eq_false, Nat.not_lt_zero, Nat.add_left_cancel_iff, Nat.add_right_cancel_iff, eq_self, upd_s, pk_sub, nI_pm, Nat.add_sub_cancel, List.length_cons, List.length_nil, Nat.add_eq_zero_iff, Nat.succ_ne_zero, and_false, false_and, l14, l18, l21, l23, l24, l26, l28, l29, l34, l35, l36, l41, l42, l43, l45, l47, l48, l49, l50, l51, l52, l57, l58, l59, l62, l63, l64, l96, l97, l98, l101, l102, l103, l104, l105, l106, l107, l108, l109, l110, l111, l112, l113, l114, l115, l116, l117, l118, l119, l121, l122, l127, l255, l700, l1320, l1000000]; rw [if_neg (by omega)]
  · simp (disch := omega) only [xB_s, xB2_s, xGet_s, xPut_s, xAld_s, xAst_s, xIf_t, xBool_s, l0, l1, l2, l3, l4, l5, l6, l7, l8, l9, l10, l11, l12, l13, l15, l16, l17, l19, l20, l25, l27, l30, l31, l32, l33, l39, l40, l60, l61, l99, l100, l120, l256, l999, l1999, l99999, lm, nI_add, pk_mul, nI_leI, nI_ltI, nI_eq, wuS_1, wuS_2, wuA_1, wuA_21, wuA_22, nI_m1, m1_nI, nIlt_m1, m1lt_nI, Nat.reduceEqDiff, Nat.reduceAdd, Nat.reduceMul, Nat.reduceSub, Nat.reduceLT, Nat.reduceLeDiff, reduceIte, if_true, if_false, Bool.false_eq_true, Nat.add_zero, Nat.zero_add, ne_eq, not_false_eq_true, not_true_eq_false, Nat.not_lt_zero, Nat.add_left_cancel_iff, Nat.add_right_cancel_iff, eq_self, upd_s, pk_sub, nI_pm, Nat.add_sub_cancel, List.length_cons, List.length_nil, Nat.add_eq_zero_iff, Nat.succ_ne_zero, and_false, false_and, l14, l18, l21, l23, l24, l26, l28, l29, l34, l35, l36, l41, l42, l43, l45, l47, l48, l49, l50, l51, l52, l57, l58, l59, l62, l63, l64, l96, l97, l98, l101, l102, l103, l104, l105, l106, l107, l108, l109, l110, l111, l112, l113, l114, l115, l116, l117, l118, l119, l121, l122, l127, l255, l700, l1320, l1000000]
  · simp (disch := omega) only [xB_s, xB2_s, xGet_s, xPut_s, xAld_s, xAst_s, xIf_t, xBool_s, l0, l1, l2, l3, l4, l5, l6, l7, l8, l9, l10, l11, l12, l13, l15, l16, l17, l19, l20, l25, l27, l30, l31, l32, l33, l39, l40, l60, l61, l99, l100, l120, l256, l999, l1999, l99999, lm, nI_add, pk_mul, nI_leI, nI_ltI, nI_eq, wuS_1, wuS_2, wuA_1, wuA_21, wuA_22, nI_m1, m1_nI, nIlt_m1, m1lt_nI, Nat.reduceEqDiff, Nat.reduceAdd, Nat.reduceMul, Nat.reduceSub, Nat.reduceLT, Nat.reduceLeDiff, reduceIte, if_true, if_false, Bool.false_eq_true, Nat.add_zero, Nat.zero_add, ne_eq, not_false_eq_true, not_true_eq_false, Nat.not_lt_zero, Nat.add_left_cancel_iff, Nat.add_right_cancel_iff, eq_self, upd_s, pk_sub, nI_pm, Nat.add_sub_cancel, List.length_cons, List.length_nil, Nat.add_eq_zero_iff, Nat.succ_ne_zero, and_false, false_and, l14, l18, l21, l23, l24, l26, l28, l29, l34, l35, l36, l41, l42, l43, l45, l47, l48, l49, l50, l51, l52, l57, l58, l59, l62, l63, l64, l96, l97, l98, l101, l102, l103, l104, l105, l106, l107, l108, l109, l110, l111, l112, l113, l114, l115, l116, l117, l118, l119, l121, l122, l127, l255, l700, l1320, l1000000]; exact h1
  · simp (disch := omega) only [xB_s, xB2_s, xGet_s, xPut_s, xAld_s, xAst_s, xIf_t, xBool_s, l0, l1, l2, l3, l4, l5, l6, l7, l8, l9, l10, l11, l12, l13, l15, l16, l17, l19, l20, l25, l27, l30, l31, l32, l33, l39, l40, l60, l61, l99, l100, l120, l256, l999, l1999, l99999, lm, nI_add, pk_mul, nI_leI, nI_ltI, nI_eq, wuS_1, wuS_2, wuA_1, wuA_21, wuA_22, nI_m1, m1_nI, nIlt_m1, m1lt_nI, Nat.reduceEqDiff, Nat.reduceAdd, Nat.reduceMul, Nat.reduceSub, Nat.reduceLT, Nat.reduceLeDiff, reduceIte, if_true, if_false, Bool.false_eq_true, Nat.add_zero, Nat.zero_add, ne_eq, not_false_eq_true, not_true_eq_false, Nat.not_lt_zero, Nat.add_left_cancel_iff, Nat.add_right_cancel_iff, eq_self, upd_s, pk_sub, nI_pm, Nat.add_sub_cancel, List.length_cons, List.length_nil, Nat.add_eq_zero_iff, Nat.succ_ne_zero, and_false, false_and, l14, l18, l21, l23, l24, l26, l28, l29, l34, l35, l36, l41, l42, l43, l45, l47, l48, l49, l50, l51, l52, l57, l58, l59, l62, l63, l64, l96, l97, l98, l101, l102, l103, l104, l105, l106, l107, l108, l109, l110, l111, l112, l113, l114, l115, l116, l117, l118, l119, l121, l122, l127, l255, l700, l1320, l1000000]
  · simp (disch := omega) only [xB_s, xB2_s, xGet_s, xPut_s, xAld_s, xAst_s, xIf_t, xBool_s, l0, l1, l2, l3, l4, l5, l6, l7, l8, l9, l10, l11, l12, l13, l15, l16, l17, l19, l20, l25, l27, l30, l31, l32, l33, l39, l40, l60, l61, l99, l100, l120, l256, l999, l1999, l99999, lm, nI_add, pk_mul, nI_leI, nI_ltI, nI_eq, wuS_1, wuS_2, wuA_1, wuA_21, wuA_22, nI_m1, m1_nI, nIlt_m1, m1lt_nI, Nat.reduceEqDiff, Nat.reduceAdd, Nat.reduceMul, Nat.reduceSub, Nat.reduceLT, Nat.reduceLeDiff, reduceIte, if_true, if_false, Bool.false_eq_true, Nat.add_zero, Nat.zero_add, ne_eq, not_false_eq_true, not_true_eq_false, Nat.not_lt_zero, Nat.add_left_cancel_iff, Nat.add_right_cancel_iff, eq_self, upd_s, pk_sub, nI_pm, Nat.add_sub_cancel, List.length_cons, List.length_nil, Nat.add_eq_zero_iff, Nat.succ_ne_zero, and_false, false_and, l14, l18, l21, l23, l24, l26, l28, l29, l34, l35, l36, l41, l42, l43, l45, l47, l48, l49, l50, l51, l52, l57, l58, l59, l62, l63, l64, l96, l97, l98, l101, l102, l103, l104, l105, l106, l107, l108, l109, l110, l111, l112, l113, l114, l115, l116, l117, l118, l119, l121, l122, l127, l255, l700, l1320, l1000000]; exact h5
  · simp (disch := omega) only [xB_s, xB2_s, xGet_s, xPut_s, xAld_s, xAst_s, xIf_t, xBool_s, l0, l1, l2, l3, l4, l5, l6, l7, l8, l9, l10, l11, l12, l13, l15, l16, l17, l19, l20, l25, l27, l30, l31, l32, l33, l39, l40, l60, l61, l99, l100, l120, l256, l999, l1999, l99999, lm, nI_add, pk_mul, nI_leI, nI_ltI, nI_eq, wuS_1, wuS_2, wuA_1, wuA_21, wuA_22, nI_m1, m1_nI, nIlt_m1, m1lt_nI, Nat.reduceEqDiff, Nat.reduceAdd, Nat.reduceMul, Nat.reduceSub, Nat.reduceLT, Nat.reduceLeDiff, reduceIte, if_true, if_false, Bool.false_eq_true, Nat.add_zero, Nat.zero_add, ne_eq, not_false_eq_true, not_true_eq_false, Nat.not_lt_zero, Nat.add_left_cancel_iff, Nat.add_right_cancel_iff, eq_self, upd_s, pk_sub, nI_pm, Nat.add_sub_cancel, List.length_cons, List.length_nil, Nat.add_eq_zero_iff, Nat.succ_ne_zero, and_false, false_and, l14, l18, l21, l23, l24, l26, l28, l29, l34, l35, l36, l41, l42, l43, l45, l47, l48, l49, l50, l51, l52, l57, l58, l59, l62, l63, l64, l96, l97, l98, l101, l102, l103, l104, l105, l106, l107, l108, l109, l110, l111, l112, l113, l114, l115, l116, l117, l118, l119, l121, l122, l127, l255, l700, l1320, l1000000]; rw [if_neg (by omega)]
  · simp (disch := omega) only [xB_s, xB2_s, xGet_s, xPut_s, xAld_s, xAst_s, xIf_t, xBool_s, l0, l1, l2, l3, l4, l5, l6, l7, l8, l9, l10, l11, l12, l13, l15, l16, l17, l19, l20, l25, l27, l30, l31, l32, l33, l39, l40, l60, l61, l99, l100, l120, l256, l999, l1999, l99999, lm, nI_add, pk_mul, nI_leI, nI_ltI, nI_eq, wuS_1, wuS_2, wuA_1, wuA_21, wuA_22, nI_m1, m1_nI, nIlt_m1, m1lt_nI, Nat.reduceEqDiff, Nat.reduceAdd, Nat.reduceMul, Nat.reduceSub, Nat.reduceLT, Nat.reduceLeDiff, reduceIte, if_true, if_false, Bool.false_eq_true, Nat.add_zero, Nat.zero_add, ne_eq, not_false_eq_true, not_true_eq_false, Nat.not_lt_zero, Nat.add_left_cancel_iff, Nat.add_right_cancel_iff, eq_self, upd_s, pk_sub, nI_pm, Nat.add_sub_cancel, List.length_cons, List.length_nil, Nat.add_eq_zero_iff, Nat.succ_ne_zero, and_false, false_and, l14, l18, l21, l23, l24, l26, l28, l29, l34, l35, l36, l41, l42, l43, l45, l47, l48, l49, l50, l51, l52, l57, l58, l59, l62, l63, l64, l96, l97, l98, l101, l102, l103, l104, l105, l106, l107, l108, l109, l110, l111, l112, l113, l114, l115, l116, l117, l118, l119, l121, l122, l127, l255, l700, l1320, l1000000]; exact hv
theorem XP.k {b : Nat → Nat} {n mn s m : Nat} {w : wS} (h : XP b n mn s m w) : kd b n s < 256 := kd_lt (fun i hi => (h.1.1.2.2 i hi).1)
theorem x_taken {b : Nat → Nat} {n mn s m c : Nat} {o : wO} {w : wS} (h : XP b n mn s m w) (hc : c < 256) : wpO (L_X2_taken o (nI c) w) (XQ b n mn m w (if kd b n s = c then .inr ([], nxT b n s) else .inl (1, s))) := by
  have hk := h.k
  unfold L_X2_taken
  simp (disch := omega) only [xB_s, xB2_s, xGet_s, xPut_s, xAld_s, xAst_s, xIf_t, xBool_s, l0, l1, l2, l3, l4, l5, l6, l7, l8, l9, l10, l11, l12, l13, l15, l16, l17, l19, l20, l25, l27, l30, l31, l32, l33, l39, l40, l60, l61, l99, l100, l120, l256, l999, l1999, l99999, lm, nI_add, pk_mul, nI_leI, nI_ltI, nI_eq, wuS_1, wuS_2, wuA_1, wuA_21, wuA_22, nI_m1, m1_nI, nIlt_m1, m1lt_nI, Nat.reduceEqDiff, Nat.reduceAdd, Nat.reduceMul, Nat.reduceSub, Nat.reduceLT, Nat.reduceLeDiff, reduceIte, if_true, if_false, Bool.false_eq_true, Nat.add_zero, Nat.zero_add, ne_eq, not_false_eq_true, not_true_eq_false, Nat.not_lt_zero, Nat.add_left_cancel_iff, Nat.add_right_cancel_iff, eq_self, upd_s, pk_sub, nI_pm, Nat.add_sub_cancel, List.length_cons, List.length_nil, Nat.add_eq_zero_iff, Nat.succ_ne_zero, and_false, false_and, l14, l18, l21, l23, l24, l26, l28, l29, l34, l35, l36, l41, l42, l43, l45, l47, l48, l49, l50, l51, l52, l57, l58, l59, l62, l63, l64, l96, l97, l98, l101, l102, l103, l104, l105, l106, l107, l108, l109, l110, l111, l112, l113, l114, l115, l116, l117, l118, l119, l121, l122, l127, l255, l700, l1320, l1000000, h.1.2.2.1]
  by_cases q : kd b n s = c
  · rw [if_pos q, if_pos q]
    refine wp_B (x_advT h) ?_
    intro w' g
    exact wp_some ⟨rfl, g⟩
  · rw [if_neg q, if_neg q]
    refine wp_B2 (x_refuse (k := 1) h.1) ?_
    rintro a w' ⟨g1, g2⟩
    have g1 : a = nI 0 := g1
    simp (disch := omega) only [xB_s, xB2_s, xGet_s, xPut_s, xAld_s, xAst_s, xIf_t, xBool_s, l0, l1, l2, l3, l4, l5, l6, l7, l8, l9, l10, l11, l12, l13, l15, l16, l17, l19, l20, l25, l27, l30, l31, l32, l33, l39, l40, l60, l61, l99, l100, l120, l256, l999, l1999, l99999, lm, nI_add, pk_mul, nI_leI, nI_ltI, nI_eq, wuS_1, wuS_2, wuA_1, wuA_21, wuA_22, nI_m1, m1_nI, nIlt_m1, m1lt_nI, Nat.reduceEqDiff, Nat.reduceAdd, Nat.reduceMul, Nat.reduceSub, Nat.reduceLT, Nat.reduceLeDiff, reduceIte, if_true, if_false, Bool.false_eq_true, Nat.add_zero, Nat.zero_add, ne_eq, not_false_eq_true, not_true_eq_false, Nat.not_lt_zero, Nat.add_left_cancel_iff, Nat.add_right_cancel_iff, eq_self, upd_s, pk_sub, nI_pm, Nat.add_sub_cancel, List.length_cons, List.length_nil, Nat.add_eq_zero_iff, Nat.succ_ne_zero, and_false, false_and, l14, l18, l21, l23, l24, l26, l28, l29, l34, l35, l36, l41, l42, l43, l45, l47, l48, l49, l50, l51, l52, l57, l58, l59, l62, l63, l64, l96, l97, l98, l101, l102, l103, l104, l105, l106, l107, l108, l109, l110, l111, l112, l113, l114, l115, l116, l117, l118, l119, l121, l122, l127, l255, l700, l1320, l1000000, g1]
    exact wp_some ⟨rfl, g2⟩
theorem sg_d {b : Nat} (h : dgB b = true) : 48 ≤ b ∧ b ≤ 57 ∧ sgB b = nI b := by
  unfold dgB at h
  have h : 48 ≤ b ∧ b ≤ 57 := by simpa using h
  exact ⟨h.1, h.2, sg_e b (by omega)⟩
theorem x_value {b : Nat → Nat} {n s : Nat} {o : wO} {w : wS} (h : TX b n s w) (hk : kd b n s = 48) : L_X7_value o w = some (if szT b n s ≤ 4 then nI (vlA b s (szT b n s)) else mI, w) := by
  obtain ⟨⟨b1, b2, b3⟩, hs, h2, h3, h4⟩ := h
  have hz := szT_le (b := b) hs
  suffices h : wpO (L_X7_value o w) (fun r => r = (if szT b n s ≤ 4 then nI (vlA b s (szT b n s)) else mI, w)) by
    obtain ⟨a, e, rfl⟩ := h; exact e
  unfold L_X7_value
  simp (disch := omega) only [xB_s, xB2_s, xGet_s, xPut_s, xAld_s, xAst_s, xIf_t, xBool_s, l0, l1, l2, l3, l4, l5, l6, l7, l8, l9, l10, l11, l12, l13, l15, l16, l17, l19, l20, l25, l27, l30, l31, l32, l33, l39, l40, l60, l61, l99, l100, l120, l256, l999, l1999, l99999, lm, nI_add, pk_mul, nI_leI, nI_ltI, nI_eq, wuS_1, wuS_2, wuA_1, wuA_21, wuA_22, nI_m1, m1_nI, nIlt_m1, m1lt_nI, Nat.reduceEqDiff, Nat.reduceAdd, Nat.reduceMul, Nat.reduceSub, Nat.reduceLT, Nat.reduceLeDiff, reduceIte, if_true, if_false, Bool.false_eq_true, Nat.add_zero, Nat.zero_add, ne_eq, not_false_eq_true, not_true_eq_false, Nat.not_lt_zero, Nat.add_left_cancel_iff, Nat.add_right_cancel_iff, eq_self, upd_s, pk_sub, nI_pm, Nat.add_sub_cancel, List.length_cons, List.length_nil, Nat.add_eq_zero_iff, Nat.succ_ne_zero, and_false, false_and, l14, l18, l21, l23, l24, l26, l28, l29, l34, l35, l36, l41, l42, l43, l45, l47, l48, l49, l50, l51, l52, l57, l58, l59, l62, l63, l64, l96, l97, l98, l101, l102, l103, l104, l105, l106, l107, l108, l109, l110, l111, l112, l113, l114, l115, l116, l117, l118, l119, l121, l122, l127, l255, l700, l1320, l1000000, h4]
  by_cases q : szT b n s ≤ 4
  · rw [if_pos q, if_pos q]
    obtain ⟨v1, v2, v3⟩ := vl_lt hk q
    unfold P_X7_value_14
    refine wp_for (szT b n s) (fun i σ => σ = (nI (vlA b s i), nI i, w)) ?_ (Nat.zero_le _) (by omega) rfl
    rintro i _ kk hi rfl hkk
    show wpO (B_X7_value_14 o (fun x1 x2 w => kk (x1, x2, w)) _ (nI (vlA b s i)) (nI i) w) _
    unfold B_X7_value_14
    by_cases hlt : i < szT b n s
    · have hd := rn_in (P := dgB) (b := b) (n := n) (k := szT b n s) (s := s) (by omega) i hlt
      obtain ⟨d1, d2, d3⟩ := sg_d hd
      have c2 := (b3 (s + i) (by omega)).2
      have hv : vlA b s i < 10 ^ (min i 4) := vlA_lt (fun j hj => (sg_d (rn_in (P := dgB) (b := b) (n := n) (k := szT b n s) (s := s) (by omega) j (by omega))).2.1)
      have hv2 : vlA b s i < 10000 := Nat.lt_of_lt_of_le hv (Nat.pow_le_pow_right (by omega) (Nat.min_le_right i 4))
      simp (disch := omega) only [xB_s, xB2_s, xGet_s, xPut_s, xAld_s, xAst_s, xIf_t, xBool_s, l0, l1, l2, l3, l4, l5, l6, l7, l8, l9, l10, l11, l12, l13, l15, l16, l17, l19, l20, l25, l27, l30, l31, l32, l33, l39, l40, l60, l61, l99, l100, l120, l256, l999, l1999, l99999, lm, nI_add, pk_mul, nI_leI, nI_ltI, nI_eq, wuS_1, wuS_2, wuA_1, wuA_21, wuA_22, nI_m1, m1_nI, nIlt_m1, m1lt_nI, Nat.reduceEqDiff, Nat.reduceAdd, Nat.reduceMul, Nat.reduceSub, Nat.reduceLT, Nat.reduceLeDiff, reduceIte, if_true, if_false, Bool.false_eq_true, Nat.add_zero, Nat.zero_add, ne_eq, not_false_eq_true, not_true_eq_false, Nat.not_lt_zero, Nat.add_left_cancel_iff, Nat.add_right_cancel_iff, eq_self, upd_s, pk_sub, nI_pm, Nat.add_sub_cancel, List.length_cons, List.length_nil, Nat.add_eq_zero_iff, Nat.succ_ne_zero, and_false, false_and, l14, l18, l21, l23, l24, l26, l28, l29, l34, l35, l36, l41, l42, l43, l45, l47, l48, l49, l50, l51, l52, l57, l58, l59, l62, l63, l64, l96, l97, l98, l101, l102, l103, l104, l105, l106, l107, l108, l109, l110, l111, l112, l113, l114, l115, l116, l117, l118, l119, l121, l122, l127, l255, l700, l1320, l1000000, h4, h3, show (szT b n s ≤ i) = False from eq_false (by omega), c2, d3]
      refine hkk hlt _ ?_
      show _ = (nI (if i < 4 then 10 * vlA b s i + b (s + i) - 48 else vlA b s i), _, _)
      rw [if_pos (by omega)]
    · obtain rfl : i = szT b n s := by omega
      simp (disch := omega) only [xB_s, xB2_s, xGet_s, xPut_s, xAld_s, xAst_s, xIf_t, xBool_s, l0, l1, l2, l3, l4, l5, l6, l7, l8, l9, l10, l11, l12, l13, l15, l16, l17, l19, l20, l25, l27, l30, l31, l32, l33, l39, l40, l60, l61, l99, l100, l120, l256, l999, l1999, l99999, lm, nI_add, pk_mul, nI_leI, nI_ltI, nI_eq, wuS_1, wuS_2, wuA_1, wuA_21, wuA_22, nI_m1, m1_nI, nIlt_m1, m1lt_nI, Nat.reduceEqDiff, Nat.reduceAdd, Nat.reduceMul, Nat.reduceSub, Nat.reduceLT, Nat.reduceLeDiff, reduceIte, if_true, if_false, Bool.false_eq_true, Nat.add_zero, Nat.zero_add, ne_eq, not_false_eq_true, not_true_eq_false, Nat.not_lt_zero, Nat.add_left_cancel_iff, Nat.add_right_cancel_iff, eq_self, upd_s, pk_sub, nI_pm, Nat.add_sub_cancel, List.length_cons, List.length_nil, Nat.add_eq_zero_iff, Nat.succ_ne_zero, and_false, false_and, l14, l18, l21, l23, l24, l26, l28, l29, l34, l35, l36, l41, l42, l43, l45, l47, l48, l49, l50, l51, l52, l57, l58, l59, l62, l63, l64, l96, l97, l98, l101, l102, l103, l104, l105, l106, l107, l108, l109, l110, l111, l112, l113, l114, l115, l116, l117, l118, l119, l121, l122, l127, l255, l700, l1320, l1000000, h4, Nat.le_refl]
      exact wp_some rfl
  · rw [if_neg q, if_neg q]
    exact wp_some rfl
theorem pVal_s {b : Nat → Nat} {n mn s k : Nat} (h : kw b n s = some k) : pVal b n mn s = if k ≤ mn then some k else none := by
  unfold pVal; rw [h]
theorem x_valueT {b : Nat → Nat} {n mn s : Nat} {o : wO} {w : wS} (h : TX b n s w) (hmn : mn = 5 ∨ mn = 6) (h5 : w.1 105 = nI (mnB mn)) : L_X2_valueTold o w = some (match pVal b n mn s with
    | none => nI 0
    | some k => xSt (1, k), w) := by
  have e0 := x_is0 (o := o) h
  have e1 := x_is1 (o := o) h
  have e2 := x_is2 (o := o) h
  have e3 := x_is3 (o := o) h
  have e4 := x_is4 (o := o) h
  have e5 := x_is5 (o := o) h
  have e6 := x_is6 (o := o) h
  unfold L_X2_valueTold J_X2_valueTold_113 J_X2_valueTold_114
  rw [e0, xB2_s]
  by_cases q0 : wIs b n s (wl 0)
  · rw [if_pos q0, if_neg (show ¬ nI 1 = 0 from by decide), pVal_s ((kw_iff (by omega)).mpr q0), if_pos (show 0 ≤ mn by omega)]; rfl
  rw [if_neg q0, if_pos (show nI 0 = 0 from rfl), e1, xB2_s]
  by_cases q1 : wIs b n s (wl 1)
  · rw [if_pos q1, if_neg (show ¬ nI 1 = 0 from by decide), pVal_s ((kw_iff (by omega)).mpr q1), if_pos (show 1 ≤ mn by omega)]; rfl
  rw [if_neg q1, if_pos (show nI 0 = 0 from rfl), e2, xB2_s]
  by_cases q2 : wIs b n s (wl 2)
  · rw [if_pos q2, if_neg (show ¬ nI 1 = 0 from by decide), pVal_s ((kw_iff (by omega)).mpr q2), if_pos (show 2 ≤ mn by omega)]; rfl
  rw [if_neg q2, if_pos (show nI 0 = 0 from rfl), e3, xB2_s]
  by_cases q3 : wIs b n s (wl 3)
  · rw [if_pos q3, if_neg (show ¬ nI 1 = 0 from by decide), pVal_s ((kw_iff (by omega)).mpr q3), if_pos (show 3 ≤ mn by omega)]; rfl
  rw [if_neg q3, if_pos (show nI 0 = 0 from rfl), e4, xB2_s]
  by_cases q4 : wIs b n s (wl 4)
  · rw [if_pos q4, if_neg (show ¬ nI 1 = 0 from by decide), pVal_s ((kw_iff (by omega)).mpr q4), if_pos (show 4 ≤ mn by omega)]; rfl
  rw [if_neg q4, if_pos (show nI 0 = 0 from rfl), e5, xB2_s]
  by_cases q5 : wIs b n s (wl 5)
  · rw [if_pos q5, if_neg (show ¬ nI 1 = 0 from by decide), pVal_s ((kw_iff (by omega)).mpr q5), if_pos (show 5 ≤ mn by omega)]; rfl
  rw [if_neg q5, if_pos (show nI 0 = 0 from rfl), xGet_s, xB_s, h5]
  have no : ∀ k, kw b n s = some k → 6 ≤ k := by
    intro k hk
    rcases Nat.lt_or_ge k 6 with hlt | hge
    · exfalso
      have := (kw_iff (by omega)).mp hk
      have : k = 0 ∨ k = 1 ∨ k = 2 ∨ k = 3 ∨ k = 4 ∨ k = 5 := by omega
      rcases this with rfl | rfl | rfl | rfl | rfl | rfl
      · exact q0 ((kw_iff (by omega)).mp hk)
      · exact q1 ((kw_iff (by omega)).mp hk)
      · exact q2 ((kw_iff (by omega)).mp hk)
      · exact q3 ((kw_iff (by omega)).mp hk)
      · exact q4 ((kw_iff (by omega)).mp hk)
      · exact q5 ((kw_iff (by omega)).mp hk)
    · exact hge
  rcases hmn with rfl | rfl
  · rw [if_pos (show nI (mnB 5) = 0 from rfl)]
    have : pVal b n 5 s = none := by
      cases hk : kw b n s with
      | none => unfold pVal; rw [hk]
      | some k => rw [pVal_s hk, if_neg (by have := no k hk; omega)]
    rw [this]; rfl
  · rw [if_neg (show ¬ nI (mnB 6) = 0 from by decide), e6, xB2_s]
    by_cases q6 : wIs b n s (wl 6)
    · rw [if_pos q6, if_neg (show ¬ nI 1 = 0 from by decide), pVal_s ((kw_iff (by omega)).mpr q6), if_pos (show 6 ≤ 6 by omega)]; rfl
    · rw [if_neg q6, if_pos (show nI 0 = 0 from rfl)]
      have : pVal b n 6 s = none := by
        cases hk : kw b n s with
        | none => unfold pVal; rw [hk]
        | some k =>
          rw [pVal_s hk, if_neg]
          intro z
          have := no k hk
          obtain rfl : k = 6 := by omega
          exact q6 ((kw_iff (by omega)).mp hk)
      rw [this]; rfl
end
