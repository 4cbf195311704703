section
/-! ===== a line ===== -/
theorem kwY {b : Nat → Nat} {n s k : Nat} (hk : k < 16) (h : kw b n s = some k) : (if wIs b n s (wl k) then 1 else 0 : Nat) = 1 := if_pos ((kw_iff hk).1 h)
theorem kwN {b : Nat → Nat} {n s k : Nat} (hk : k < 16) (h : ¬ kw b n s = some k) : (if wIs b n s (wl k) then 1 else 0 : Nat) = 0 := if_neg (fun q => h ((kw_iff hk).2 q))
theorem oI_nI : ∀ k, k < 16 → ∀ j, j < 16 → (nI k = nI j ↔ k = j) := by decide +kernel
theorem mI_nI : ∀ k, k < 16 → ¬ oI none = nI k := by decide +kernel
set_option maxRecDepth 4000 in
theorem t_line {b : Nat → Nat} {n s m : Nat} {D : Df} {o : wO} {w v : wS} (h : LR b n D m s o w v) : R2 (L_X2_line o w) (L_X10_line v) (LQ b n s o w v) := by
  have tx := h.1.1
  have tm := h.1.2
  have km := m_known tm
  unfold L_X2_line L_X10_line
  rw [x_is7 tx, km]
  by_cases e7 : kw b n s = some 7
  · rw [kwY (by decide) e7, e7]
    exact t_person (k := 0) (by omega) h
  rw [kwN (by decide) e7, xB2_s, if_pos (show nI 0 = 0 from rfl), x_is8 tx]
  by_cases e8 : kw b n s = some 8
  · rw [kwY (by decide) e8, e8]
    exact t_person (k := 1) (by omega) h
  rw [kwN (by decide) e8, xB2_s, if_pos (show nI 0 = 0 from rfl), x_is9 tx]
  by_cases e9 : kw b n s = some 9
  · rw [kwY (by decide) e9, e9]
    exact t_person (k := 2) (by omega) h
  rw [kwN (by decide) e9, xB2_s, if_pos (show nI 0 = 0 from rfl), x_is4 tx]
  by_cases e4 : kw b n s = some 4
  · rw [kwY (by decide) e4, e4]
    exact t_duty h
  rw [kwN (by decide) e4, xB2_s, if_pos (show nI 0 = 0 from rfl), x_is10 tx]
  by_cases e10 : kw b n s = some 10
  · rw [kwY (by decide) e10, e10]
    exact t_pace h
  rw [kwN (by decide) e10, xB2_s, if_pos (show nI 0 = 0 from rfl), x_is11 tx]
  by_cases e11 : kw b n s = some 11
  · rw [kwY (by decide) e11, e11]
    exact t_rule0 h ((kw_iff (by decide)).1 e11).2.1
  rw [kwN (by decide) e11, xB2_s, if_pos (show nI 0 = 0 from rfl), x_is12 tx]
  by_cases e12 : kw b n s = some 12
  · rw [kwY (by decide) e12, e12]
    exact t_rule1 h ((kw_iff (by decide)).1 e12).2.1
  rw [kwN (by decide) e12, xB2_s, if_pos (show nI 0 = 0 from rfl)]
  have hne : ∀ k, k < 16 → ¬ kw b n s = some k → ¬ oI (kw b n s) = nI k := by
    intro k hk q1 q2
    cases e : kw b n s with
    | none =>
      rw [e] at q2
      exact absurd q2 (mI_nI k hk)
    | some j =>
      rw [e] at q1 q2
      have := (oI_nI j (kw_lt e) k hk).1 q2
      exact q1 (by rw [this])
  rw [xB2_s, if_neg (show ¬ oI (kw b n s) = 7 from hne 7 (by decide) e7), if_neg (show ¬ oI (kw b n s) = 8 from hne 8 (by decide) e8), if_neg (show ¬ oI (kw b n s) = 9 from hne 9 (by decide) e9), if_neg (show ¬ oI (kw b n s) = 4 from hne 4 (by decide) e4), if_neg (show ¬ oI (kw b n s) = 10 from hne 10 (by decide) e10), if_neg (show ¬ oI (kw b n s) = 11 from hne 11 (by decide) e11), if_neg (show ¬ oI (kw b n s) = 12 from hne 12 (by decide) e12)]
  have h13 := h.2.2.1.2.2.2.2.2
  refine R2.x2 (x_refuse (k := 1) tx) ?_
  rintro a w1 ⟨g1, g2⟩
  have g1 : a = nI 0 := g1
  simp (disch := omega) only [xB_s, xB2_s, xGet_s, xPut_s, xAld_s, xAst_s, xIf_t, xBool_s, l0, l1, l2, l3, l4, l5, l6, l7, l8, l9, l10, l11, l12, l13, l15, l16, l17, l19, l20, l25, l27, l30, l31, l32, l33, l39, l40, l60, l61, l99, l100, l120, l256, l999, l1999, l99999, lm, nI_add, pk_mul, nI_leI, nI_ltI, nI_eq, wuS_1, wuS_2, wuA_1, wuA_21, wuA_22, nI_m1, m1_nI, nIlt_m1, m1lt_nI, Nat.reduceEqDiff, Nat.reduceAdd, Nat.reduceMul, Nat.reduceSub, Nat.reduceLT, Nat.reduceLeDiff, reduceIte, if_true, if_false, Bool.false_eq_true, Nat.add_zero, Nat.zero_add, ne_eq, not_false_eq_true, not_true_eq_false, Nat.not_lt_zero, Nat.add_left_cancel_iff, Nat.add_right_cancel_iff, eq_self, upd_s, pk_sub, nI_pm, Nat.add_sub_cancel, List.length_cons, List.length_nil, Nat.add_eq_zero_iff, Nat.succ_ne_zero, and_false, false_and, l14, l18, l21, l23, l24, l26, l28, l29, l34, l35, l36, l41, l42, l43, l45, l47, l48, l49, l50, l51, l52, l57, l58, l59, l62, l63, l64, l96, l97, l98, l101, l102, l103, l104, l105, l106, l107, l108, l109, l110, l111, l112, l113, l114, l115, l116, l117, l118, l119, l121, l122, l127, l255, l700, l1320, l1000000, g1, m_wrong (k := 1) h13, tm.2.2.2.2.1]
  exact q_bad (XFr.refl.F g2.1 (by decide) (by decide)) ((FL.refl.S (by decide)).S (by decide)) ⟨rfl, h.2.1.2.2.2.1⟩ (LF.mk ⟨by decide, by decide⟩ g2)
end
