section
/-! ===== round ===== -/
def rwX (y : Yw) (k : Nat) : Int32 := if k = 0 then oI (yR y) else if k < 9 then nI (yH y (k - 1)) else nI (yL y (k - 9))
def rwM (y : Yw) (k : Nat) : Int32 := if k < 8 then nI (yH y k) else if k < 16 then nI (yL y (k - 8)) else oI (yR y)
theorem XY.rw {y : Yw} {A : Nat → Int32} (h : XY y A) {k : Nat} (hk : k < 17) : A k = rwX y k := by
  unfold rwX
  by_cases h0 : k = 0
  · rw [if_pos h0, h0]; exact h.1
  · rw [if_neg h0]
    by_cases h9 : k < 9
    · rw [if_pos h9]
      have := h.2.1 (k - 1) (by omega)
      rw [show 1 + (k - 1) = k by omega] at this; exact this
    · rw [if_neg h9]
      have := h.2.2.1 (k - 9) (by omega)
      rw [show 9 + (k - 9) = k by omega] at this; exact this
theorem YM.rw {y : Yw} {A : Nat → Int32} {b : Nat} (h : YM y A b) {k : Nat} (hk : k < 16) : A (b + 3 + k) = rwM y k := by
  unfold rwM
  by_cases h8 : k < 8
  · rw [if_pos h8]; exact h.2.2.2.1 k h8
  · rw [if_neg h8, if_pos hk]
    have := h.2.2.2.2.1 (k - 8) (by omega)
    rw [show b + 11 + (k - 8) = b + 3 + k by omega] at this; exact this
def alk (y z : Yw) : Bool := @decide (∀ k, k < 17 → rwX y k = rwX z k) (Nat.decidableBallLT 17 fun k _ => rwX y k = rwX z k)
theorem rwM_X (y : Yw) {k : Nat} (hk : k < 17) : rwM y k = rwX y (if k < 16 then k + 1 else 0) := by
  unfold rwM rwX
  by_cases h8 : k < 8
  · rw [if_pos h8, if_pos (show k < 16 by omega), if_neg (show ¬ k + 1 = 0 by omega), if_pos (show k + 1 < 9 by omega), Nat.add_sub_cancel]
  · rw [if_neg h8]
    by_cases h16 : k < 16
    · rw [if_pos h16, if_pos h16, if_neg (show ¬ k + 1 = 0 by omega), if_neg (show ¬ k + 1 < 9 by omega), show k + 1 - 9 = k - 8 by omega]
    · rw [if_neg h16, if_neg h16, if_pos rfl]
theorem rwX_M (y : Yw) {k : Nat} (hk : k < 17) : rwX y k = rwM y (if k = 0 then 16 else k - 1) := by
  rw [rwM_X y (by split <;> omega)]
  congr 1
  by_cases h : k = 0
  · rw [if_pos h, if_neg (by omega), h]
  · rw [if_neg h, if_pos (by omega)]; omega
theorem alk_M (y z : Yw) : alk y z = true ↔ ∀ k, k < 17 → rwM y k = rwM z k := by
  constructor
  · intro h k hk
    rw [rwM_X y hk, rwM_X z hk]
    exact of_decide_eq_true h _ (by split <;> omega)
  · intro h
    refine decide_eq_true (fun k hk => ?_)
    rw [rwX_M y hk, rwX_M z hk]
    exact h _ (by split <;> omega)
theorem x_areAlike {y z : Yw} {o : wO} {w : wS} {i k : Nat} (hi : i ≤ 40) (hk : k ≤ 40) (h1 : ∀ c, c < 17 → w.2.1 49 (i * 17 + c) = rwX y c) (h2 : ∀ c, c < 17 → w.2.1 49 (k * 17 + c) = rwX z c) : L_X9_areAlike o (nI i) (nI k) w = some (nI (alk y z).toNat, w) := by
  suffices hh : wpO (L_X9_areAlike o (nI i) (nI k) w) (fun r => r = (nI (alk y z).toNat, w)) by
    obtain ⟨a, e, rfl⟩ := hh; exact e
  unfold L_X9_areAlike P_X9_areAlike_2
  simp (disch := omega) only [xB_s, xB2_s, xGet_s, xPut_s, xAld_s, xAst_s, xIf_t, xBool_s, l0, l1, l2, l3, l4, l5, l6, l7, l8, l9, l10, l11, l12, l13, l15, l16, l17, l19, l20, l25, l27, l30, l31, l32, l33, l39, l40, l60, l61, l99, l100, l120, l256, l999, l1999, l99999, lm, nI_add, pk_mul, nI_leI, nI_ltI, nI_eq, wuS_1, wuS_2, wuA_1, wuA_21, wuA_22, nI_m1, m1_nI, nIlt_m1, m1lt_nI, Nat.reduceEqDiff, Nat.reduceAdd, Nat.reduceMul, Nat.reduceSub, Nat.reduceLT, Nat.reduceLeDiff, reduceIte, if_true, if_false, Bool.false_eq_true, Nat.add_zero, Nat.zero_add, ne_eq, not_false_eq_true, not_true_eq_false, Nat.not_lt_zero, Nat.add_left_cancel_iff, Nat.add_right_cancel_iff, eq_self, upd_s, pk_sub, nI_pm, Nat.add_sub_cancel, List.length_cons, List.length_nil, Nat.add_eq_zero_iff, Nat.succ_ne_zero, and_false, false_and, l14, l18, l21, l23, l24, l26, l28, l29, l34, l35, l36, l41, l42, l43, l45, l47, l48, l49, l50, l51, l52, l57, l58, l59, l62, l63, l64, l96, l97, l98, l101, l102, l103, l104, l105, l106, l107, l108, l109, l110, l111, l112, l113, l114, l115, l116, l117, l118, l119, l121, l122, l127, l255, l700, l1320, l1000000]
  refine wp_for 17 (fun c σ => σ = (nI i, nI k, nI c, w) ∧ ∀ j, j < c → rwX y j = rwX z j) ?_ (Nat.zero_le _) (by omega) ⟨rfl, fun j hj => by omega⟩
  rintro c _ kk hc ⟨rfl, hj⟩ hkk
  show wpO (B_X9_areAlike_2 o (fun x1 x2 x3 w => kk (x1, x2, x3, w)) _ _ (nI i) (nI k) (nI c) w) _
  unfold B_X9_areAlike_2
  by_cases hlt : c < 17
  · simp (disch := omega) only [xB_s, xB2_s, xGet_s, xPut_s, xAld_s, xAst_s, xIf_t, xBool_s, l0, l1, l2, l3, l4, l5, l6, l7, l8, l9, l10, l11, l12, l13, l15, l16, l17, l19, l20, l25, l27, l30, l31, l32, l33, l39, l40, l60, l61, l99, l100, l120, l256, l999, l1999, l99999, lm, nI_add, pk_mul, nI_leI, nI_ltI, nI_eq, wuS_1, wuS_2, wuA_1, wuA_21, wuA_22, nI_m1, m1_nI, nIlt_m1, m1lt_nI, Nat.reduceEqDiff, Nat.reduceAdd, Nat.reduceMul, Nat.reduceSub, Nat.reduceLT, Nat.reduceLeDiff, reduceIte, if_true, if_false, Bool.false_eq_true, Nat.add_zero, Nat.zero_add, ne_eq, not_false_eq_true, not_true_eq_false, Nat.not_lt_zero, Nat.add_left_cancel_iff, Nat.add_right_cancel_iff, eq_self, upd_s, pk_sub, nI_pm, Nat.add_sub_cancel, List.length_cons, List.length_nil, Nat.add_eq_zero_iff, Nat.succ_ne_zero, and_false, false_and, l14, l18, l21, l23, l24, l26, l28, l29, l34, l35, l36, l41, l42, l43, l45, l47, l48, l49, l50, l51, l52, l57, l58, l59, l62, l63, l64, l96, l97, l98, l101, l102, l103, l104, l105, l106, l107, l108, l109, l110, l111, l112, l113, l114, l115, l116, l117, l118, l119, l121, l122, l127, l255, l700, l1320, l1000000, show (17 ≤ c) = False from eq_false (by omega), h1 c hlt, h2 c hlt]
    by_cases e : rwX y c = rwX z c
    · rw [if_pos e]
      refine hkk hlt _ ⟨rfl, fun j hj2 => ?_⟩
      by_cases q : j = c
      · rw [q]; exact e
      · exact hj j (by omega)
    · rw [if_neg e]
      refine wp_some ?_
      have : alk y z = false := decide_eq_false (fun q => e (q c hlt))
      rw [this]; rfl
  · obtain rfl : c = 17 := by omega
    simp (disch := omega) only [xB_s, xB2_s, xGet_s, xPut_s, xAld_s, xAst_s, xIf_t, xBool_s, l0, l1, l2, l3, l4, l5, l6, l7, l8, l9, l10, l11, l12, l13, l15, l16, l17, l19, l20, l25, l27, l30, l31, l32, l33, l39, l40, l60, l61, l99, l100, l120, l256, l999, l1999, l99999, lm, nI_add, pk_mul, nI_leI, nI_ltI, nI_eq, wuS_1, wuS_2, wuA_1, wuA_21, wuA_22, nI_m1, m1_nI, nIlt_m1, m1lt_nI, Nat.reduceEqDiff, Nat.reduceAdd, Nat.reduceMul, Nat.reduceSub, Nat.reduceLT, Nat.reduceLeDiff, reduceIte, if_true, if_false, Bool.false_eq_true, Nat.add_zero, Nat.zero_add, ne_eq, not_false_eq_true, not_true_eq_false, Nat.not_lt_zero, Nat.add_left_cancel_iff, Nat.add_right_cancel_iff, eq_self, upd_s, pk_sub, nI_pm, Nat.add_sub_cancel, List.length_cons, List.length_nil, Nat.add_eq_zero_iff, Nat.succ_ne_zero, and_false, false_and, l14, l18, l21, l23, l24, l26, l28, l29, l34, l35, l36, l41, l42, l43, l45, l47, l48, l49, l50, l51, l52, l57, l58, l59, l62, l63, l64, l96, l97, l98, l101, l102, l103, l104, l105, l106, l107, l108, l109, l110, l111, l112, l113, l114, l115, l116, l117, l118, l119, l121, l122, l127, l255, l700, l1320, l1000000]
    refine wp_some ?_
    have : alk y z = true := decide_eq_true hj
    rw [this]; rfl
theorem q_round {t : Tn} {y : Yw} {o : wO} {wx wm : wS} {a1 : Int32} (h : PQ t y o wx wm) : R2 (L_X9_round o a1 wx) (L_X10_round a1 wm) (QA cdN wx wm) := by
  obtain ⟨w1, e1, q1, z1, T1, Y1, h1⟩ := h.put
  have hh := h
  obtain ⟨⟨ho, hy, hD⟩, ⟨hT, hY⟩, _⟩ := hh
  have b1 := ho.1
  have b2 := ho.2.1
  unfold L_X9_round L_X10_round J_X9_round_67 J_X10_round_160
  simp only [xB_s, xB2_s, xIf_t, xBT_n, xBT_e, l0, l1, l2, l3, l4, l5, l6, l7, l8, l9, l10, l11, l12, l13, l15, l16, l17, l19, l20, l25, l27, l30, l31, l32, l33, l39, l40, l60, l61, l99, l100, l120, l256, l999, l1999, l99999, lm, l14, l18, l21, l23, l24, l26, l28, l29, l34, l35, l36, l41, l42, l43, l45, l47, l48, l49, l50, l51, l52, l57, l58, l59, l62, l63, l64, l96, l97, l98, l101, l102, l103, l104, l105, l106, l107, l108, l109, l110, l111, l112, l113, l114, l115, l116, l117, l118, l119, l121, l122, l127, l255, l700, l1320, l1000000, e1]
  refine g_what (by omega) z1 (by simp (disch := omega) only [xB_s, xB2_s, xGet_s, xPut_s, xAld_s, xAst_s, xIf_t, xBool_s, l0, l1, l2, l3, l4, l5, l6, l7, l8, l9, l10, l11, l12, l13, l15, l16, l17, l19, l20, l25, l27, l30, l31, l32, l33, l39, l40, l60, l61, l99, l100, l120, l256, l999, l1999, l99999, lm, nI_add, pk_mul, nI_leI, nI_ltI, nI_eq, wuS_1, wuS_2, wuA_1, wuA_21, wuA_22, nI_m1, m1_nI, nIlt_m1, m1lt_nI, Nat.reduceEqDiff, Nat.reduceAdd, Nat.reduceMul, Nat.reduceSub, Nat.reduceLT, Nat.reduceLeDiff, reduceIte, if_true, if_false, Bool.false_eq_true, Nat.add_zero, Nat.zero_add, ne_eq, not_false_eq_true, not_true_eq_false, Nat.not_lt_zero, Nat.add_left_cancel_iff, Nat.add_right_cancel_iff, eq_self, upd_s, pk_sub, nI_pm, Nat.add_sub_cancel, List.length_cons, List.length_nil, Nat.add_eq_zero_iff, Nat.succ_ne_zero, and_false, false_and, l14, l18, l21, l23, l24, l26, l28, l29, l34, l35, l36, l41, l42, l43, l45, l47, l48, l49, l50, l51, l52, l57, l58, l59, l62, l63, l64, l96, l97, l98, l101, l102, l103, l104, l105, l106, l107, l108, l109, l110, l111, l112, l113, l114, l115, l116, l117, l118, l119, l121, l122, l127, l255, l700, l1320, l1000000]; exact QA.no q1) ?_
  rintro a ha rfl
  simp (disch := omega) only [xB_s, xB2_s, xGet_s, xPut_s, xAld_s, xAst_s, xIf_t, xBool_s, l0, l1, l2, l3, l4, l5, l6, l7, l8, l9, l10, l11, l12, l13, l15, l16, l17, l19, l20, l25, l27, l30, l31, l32, l33, l39, l40, l60, l61, l99, l100, l120, l256, l999, l1999, l99999, lm, nI_add, pk_mul, nI_leI, nI_ltI, nI_eq, wuS_1, wuS_2, wuA_1, wuA_21, wuA_22, nI_m1, m1_nI, nIlt_m1, m1lt_nI, Nat.reduceEqDiff, Nat.reduceAdd, Nat.reduceMul, Nat.reduceSub, Nat.reduceLT, Nat.reduceLeDiff, reduceIte, if_true, if_false, Bool.false_eq_true, Nat.add_zero, Nat.zero_add, ne_eq, not_false_eq_true, not_true_eq_false, Nat.not_lt_zero, Nat.add_left_cancel_iff, Nat.add_right_cancel_iff, eq_self, upd_s, pk_sub, nI_pm, Nat.add_sub_cancel, List.length_cons, List.length_nil, Nat.add_eq_zero_iff, Nat.succ_ne_zero, and_false, false_and, l14, l18, l21, l23, l24, l26, l28, l29, l34, l35, l36, l41, l42, l43, l45, l47, l48, l49, l50, l51, l52, l57, l58, l59, l62, l63, l64, l96, l97, l98, l101, l102, l103, l104, l105, l106, l107, l108, l109, l110, l111, l112, l113, l114, l115, l116, l117, l118, l119, l121, l122, l127, l255, l700, l1320, l1000000]
  refine d_begin h q1 z1 ?_
  rintro wx' wm' ⟨i1, i2, i3, ⟨r1, r2, r3, r4, r5, r6⟩, _, _⟩ _ _ _ _
  unfold P_X9_round_12 P_X10_round_22
  refine r_for 41 (fun i s s' => ∃ wx2 wm2, s = (nI a, nI i, wx2) ∧ s' = (nI a, nI i, wm2) ∧ (QX wx wx2 ∧ XC t o wx2 ∧ wx2.1 3008 = nI 0 ∧ XY (daysY t (exC 0) y (i - 1)) (wx2.2.1 32) ∧ ∀ j, j < i → ∀ c, c < 17 → wx2.2.1 49 (j * 17 + c) = rwX (daysY t (exC 0) y j) c) ∧ QM wm wm2 ∧ wm2.1 0 = nI 0 ∧ TM t wm2 ∧ EM (exC 0) wm2 ∧ YM (daysY t (exC 0) y i) (wm2.2.1 16) 33 ∧ ∀ j, j < i → ∀ c, c < 17 → wm2.2.1 23 (17 * j + c) = rwM (daysY t (exC 0) y j) c) ?_ (i := 0) (by omega) (by omega) (by omega) ⟨wx', wm', rfl, rfl, ⟨i1, r1, r2, r3, fun j hj => by omega⟩, i2, i3, r4, r5, r6, fun j hj => by omega⟩
  rintro i _ _ kx km hi ⟨wx2, wm2, rfl, rfl, ⟨c1, c2, c3, c4, c5⟩, m1, m2, m3, m4, m5, m6⟩ hkk
  show R2 (B_X9_round_12 o (fun x1 x3 w => kx (x1, x3, w)) _ _ (nI a) (nI i) wx2) (B_X10_round_22 (fun x1 x2 w => km (x1, x2, w)) _ _ (nI a) (nI i) wm2) _
  unfold B_X9_round_12 B_X10_round_22
  by_cases hlt : i < 41
  · simp (disch := omega) only [xB_s, xB2_s, xGet_s, xPut_s, xAld_s, xAst_s, xIf_t, xBool_s, l0, l1, l2, l3, l4, l5, l6, l7, l8, l9, l10, l11, l12, l13, l15, l16, l17, l19, l20, l25, l27, l30, l31, l32, l33, l39, l40, l60, l61, l99, l100, l120, l256, l999, l1999, l99999, lm, nI_add, pk_mul, nI_leI, nI_ltI, nI_eq, wuS_1, wuS_2, wuA_1, wuA_21, wuA_22, nI_m1, m1_nI, nIlt_m1, m1lt_nI, Nat.reduceEqDiff, Nat.reduceAdd, Nat.reduceMul, Nat.reduceSub, Nat.reduceLT, Nat.reduceLeDiff, reduceIte, if_true, if_false, Bool.false_eq_true, Nat.add_zero, Nat.zero_add, ne_eq, not_false_eq_true, not_true_eq_false, Nat.not_lt_zero, Nat.add_left_cancel_iff, Nat.add_right_cancel_iff, eq_self, upd_s, pk_sub, nI_pm, Nat.add_sub_cancel, List.length_cons, List.length_nil, Nat.add_eq_zero_iff, Nat.succ_ne_zero, and_false, false_and, l14, l18, l21, l23, l24, l26, l28, l29, l34, l35, l36, l41, l42, l43, l45, l47, l48, l49, l50, l51, l52, l57, l58, l59, l62, l63, l64, l96, l97, l98, l101, l102, l103, l104, l105, l106, l107, l108, l109, l110, l111, l112, l113, l114, l115, l116, l117, l118, l119, l121, l122, l127, l255, l700, l1320, l1000000, show (40 < i) = False from eq_false (by omega)]
    have key : ∀ wx3, QX wx wx3 → XC t o wx3 → wx3.1 3008 = nI 0 → XY (daysY t (exC 0) y i) (wx3.2.1 32) → (∀ j, j < i → ∀ c, c < 17 → wx3.2.1 49 (j * 17 + c) = rwX (daysY t (exC 0) y j) c) → R2 (J_X9_round_26 o (fun x1 x3 w => kx (x1, x3, w)) (fun z17 z18 z19 w20 => if z17 = nI 0 then some (.inl z18, w20) else some (.inl z19, w20)) (fun w22 => some (.inl mI, w22)) (nI a) (nI i) wx3) (P_X10_round_30 (fun z16 z17 w18 => xB (xAld w18 16 66 (nI 34)) fun v19 => xB (xAst w18 23 697 (nI 17 * z17 + nI 16) v19) fun w20 => P_X10_round_83 (fun z21 z22 z23 w24 => if z21 = nI 0 then some (z22, w24) else some (z23, w24)) (fun z25 z26 w27 => xB (L_X10_dayGoes (nI 33) w27) fun w28 => km (z25, z26 + nI 1, w28)) 5000 z16 z17 (nI 0) w20) 5000 (nI a) (nI i) (nI 0) wm2) (QA cdN wx wm) := by
      intro wx3 d1 d2 d3 d4 d5
      unfold J_X9_round_26 L_X5_copyAlike_x31_x49
      simp (disch := omega) only [xB_s, xB2_s, xGet_s, xPut_s, xAld_s, xAst_s, xIf_t, xBool_s, l0, l1, l2, l3, l4, l5, l6, l7, l8, l9, l10, l11, l12, l13, l15, l16, l17, l19, l20, l25, l27, l30, l31, l32, l33, l39, l40, l60, l61, l99, l100, l120, l256, l999, l1999, l99999, lm, nI_add, pk_mul, nI_leI, nI_ltI, nI_eq, wuS_1, wuS_2, wuA_1, wuA_21, wuA_22, nI_m1, m1_nI, nIlt_m1, m1lt_nI, Nat.reduceEqDiff, Nat.reduceAdd, Nat.reduceMul, Nat.reduceSub, Nat.reduceLT, Nat.reduceLeDiff, reduceIte, if_true, if_false, Bool.false_eq_true, Nat.add_zero, Nat.zero_add, ne_eq, not_false_eq_true, not_true_eq_false, Nat.not_lt_zero, Nat.add_left_cancel_iff, Nat.add_right_cancel_iff, eq_self, upd_s, pk_sub, nI_pm, Nat.add_sub_cancel, List.length_cons, List.length_nil, Nat.add_eq_zero_iff, Nat.succ_ne_zero, and_false, false_and, l14, l18, l21, l23, l24, l26, l28, l29, l34, l35, l36, l41, l42, l43, l45, l47, l48, l49, l50, l51, l52, l57, l58, l59, l62, l63, l64, l96, l97, l98, l101, l102, l103, l104, l105, l106, l107, l108, l109, l110, l111, l112, l113, l114, l115, l116, l117, l118, l119, l121, l122, l127, l255, l700, l1320, l1000000, xCpy_n]
      generalize hw4 : wuA wx3 49 (va_cpy (wx3.2.1 32) (wx3.2.1 49) 0 (i * 17) 17) = wx4
      have F4 : Fr xKs xQs wx3 wx4 := by rw [← hw4]; exact Fr.refl.A (by decide)
      have g1 := d1.trans (QX.fr F4)
      have g2 : XC t o wx4 := d2.of (fun k hk => F4.1 k (by simp; omega)) (fun c hc => by
        rw [← hw4, wuA_21, if_neg (by simp at hc; omega)]) F4.2.2
      have g3 : wx4.1 3008 = nI 0 := by rw [← hw4]; exact d3
      have g4 : XY (daysY t (exC 0) y i) (wx4.2.1 32) := by rw [← hw4]; simp (disch := omega) only [xB_s, xB2_s, xGet_s, xPut_s, xAld_s, xAst_s, xIf_t, xBool_s, l0, l1, l2, l3, l4, l5, l6, l7, l8, l9, l10, l11, l12, l13, l15, l16, l17, l19, l20, l25, l27, l30, l31, l32, l33, l39, l40, l60, l61, l99, l100, l120, l256, l999, l1999, l99999, lm, nI_add, pk_mul, nI_leI, nI_ltI, nI_eq, wuS_1, wuS_2, wuA_1, wuA_21, wuA_22, nI_m1, m1_nI, nIlt_m1, m1lt_nI, Nat.reduceEqDiff, Nat.reduceAdd, Nat.reduceMul, Nat.reduceSub, Nat.reduceLT, Nat.reduceLeDiff, reduceIte, if_true, if_false, Bool.false_eq_true, Nat.add_zero, Nat.zero_add, ne_eq, not_false_eq_true, not_true_eq_false, Nat.not_lt_zero, Nat.add_left_cancel_iff, Nat.add_right_cancel_iff, eq_self, upd_s, pk_sub, nI_pm, Nat.add_sub_cancel, List.length_cons, List.length_nil, Nat.add_eq_zero_iff, Nat.succ_ne_zero, and_false, false_and, l14, l18, l21, l23, l24, l26, l28, l29, l34, l35, l36, l41, l42, l43, l45, l47, l48, l49, l50, l51, l52, l57, l58, l59, l62, l63, l64, l96, l97, l98, l101, l102, l103, l104, l105, l106, l107, l108, l109, l110, l111, l112, l113, l114, l115, l116, l117, l118, l119, l121, l122, l127, l255, l700, l1320, l1000000]; exact d4
      have g5 : ∀ j, j < i + 1 → ∀ c, c < 17 → wx4.2.1 49 (j * 17 + c) = rwX (daysY t (exC 0) y j) c := by
        intro j hj c hc
        rw [← hw4, wuA_21, if_pos rfl, cpy_at]
        by_cases e : j = i
        · subst e
          rw [if_pos (by omega), show 0 + (j * 17 + c - j * 17) = c by omega]
          exact d4.rw hc
        · rw [if_neg (by omega)]; exact d5 j (by omega) c hc
      unfold P_X10_round_30
      refine r_forM 16 (fun c s' => ∃ w3, s' = (nI a, nI i, nI c, w3) ∧ Fr [] [23] wm2 w3 ∧ (∀ j, j < i → ∀ c, c < 17 → w3.2.1 23 (17 * j + c) = rwM (daysY t (exC 0) y j) c) ∧ ∀ e, e < c → w3.2.1 23 (17 * i + e) = rwM (daysY t (exC 0) y i) e) ?_ (i := 0) (by omega) (by omega) ⟨wm2, rfl, Fr.refl, m6, fun e he => by omega⟩
      rintro c _ km2 hc ⟨w3, rfl, F3, n1, n2⟩ hkk2
      show R2 _ (B_X10_round_30 (fun x1 x2 x3 w => km2 (x1, x2, x3, w)) _ (nI a) (nI i) (nI c) w3) _
      unfold B_X10_round_30
      have e16 : w3.2.1 16 = wm2.2.1 16 := F3.2.1 16 (by decide)
      by_cases hc16 : c < 16
      · have er := m5.rw hc16
        simp (disch := omega) only [xB_s, xB2_s, xGet_s, xPut_s, xAld_s, xAst_s, xIf_t, xBool_s, l0, l1, l2, l3, l4, l5, l6, l7, l8, l9, l10, l11, l12, l13, l15, l16, l17, l19, l20, l25, l27, l30, l31, l32, l33, l39, l40, l60, l61, l99, l100, l120, l256, l999, l1999, l99999, lm, nI_add, pk_mul, nI_leI, nI_ltI, nI_eq, wuS_1, wuS_2, wuA_1, wuA_21, wuA_22, nI_m1, m1_nI, nIlt_m1, m1lt_nI, Nat.reduceEqDiff, Nat.reduceAdd, Nat.reduceMul, Nat.reduceSub, Nat.reduceLT, Nat.reduceLeDiff, reduceIte, if_true, if_false, Bool.false_eq_true, Nat.add_zero, Nat.zero_add, ne_eq, not_false_eq_true, not_true_eq_false, Nat.not_lt_zero, Nat.add_left_cancel_iff, Nat.add_right_cancel_iff, eq_self, upd_s, pk_sub, nI_pm, Nat.add_sub_cancel, List.length_cons, List.length_nil, Nat.add_eq_zero_iff, Nat.succ_ne_zero, and_false, false_and, l14, l18, l21, l23, l24, l26, l28, l29, l34, l35, l36, l41, l42, l43, l45, l47, l48, l49, l50, l51, l52, l57, l58, l59, l62, l63, l64, l96, l97, l98, l101, l102, l103, l104, l105, l106, l107, l108, l109, l110, l111, l112, l113, l114, l115, l116, l117, l118, l119, l121, l122, l127, l255, l700, l1320, l1000000, show (16 ≤ c) = False from eq_false (by omega), e16, er]
        refine hkk2 hc16 _ ⟨_, rfl, F3.A (by decide), fun j hj e he => ?_, fun e he => ?_⟩
        · simp (disch := omega) only [xB_s, xB2_s, xGet_s, xPut_s, xAld_s, xAst_s, xIf_t, xBool_s, l0, l1, l2, l3, l4, l5, l6, l7, l8, l9, l10, l11, l12, l13, l15, l16, l17, l19, l20, l25, l27, l30, l31, l32, l33, l39, l40, l60, l61, l99, l100, l120, l256, l999, l1999, l99999, lm, nI_add, pk_mul, nI_leI, nI_ltI, nI_eq, wuS_1, wuS_2, wuA_1, wuA_21, wuA_22, nI_m1, m1_nI, nIlt_m1, m1lt_nI, Nat.reduceEqDiff, Nat.reduceAdd, Nat.reduceMul, Nat.reduceSub, Nat.reduceLT, Nat.reduceLeDiff, reduceIte, if_true, if_false, Bool.false_eq_true, Nat.add_zero, Nat.zero_add, ne_eq, not_false_eq_true, not_true_eq_false, Nat.not_lt_zero, Nat.add_left_cancel_iff, Nat.add_right_cancel_iff, eq_self, upd_s, pk_sub, nI_pm, Nat.add_sub_cancel, List.length_cons, List.length_nil, Nat.add_eq_zero_iff, Nat.succ_ne_zero, and_false, false_and, l14, l18, l21, l23, l24, l26, l28, l29, l34, l35, l36, l41, l42, l43, l45, l47, l48, l49, l50, l51, l52, l57, l58, l59, l62, l63, l64, l96, l97, l98, l101, l102, l103, l104, l105, l106, l107, l108, l109, l110, l111, l112, l113, l114, l115, l116, l117, l118, l119, l121, l122, l127, l255, l700, l1320, l1000000]; rw [if_neg (by omega)]; exact n1 j hj e he
        · simp (disch := omega) only [xB_s, xB2_s, xGet_s, xPut_s, xAld_s, xAst_s, xIf_t, xBool_s, l0, l1, l2, l3, l4, l5, l6, l7, l8, l9, l10, l11, l12, l13, l15, l16, l17, l19, l20, l25, l27, l30, l31, l32, l33, l39, l40, l60, l61, l99, l100, l120, l256, l999, l1999, l99999, lm, nI_add, pk_mul, nI_leI, nI_ltI, nI_eq, wuS_1, wuS_2, wuA_1, wuA_21, wuA_22, nI_m1, m1_nI, nIlt_m1, m1lt_nI, Nat.reduceEqDiff, Nat.reduceAdd, Nat.reduceMul, Nat.reduceSub, Nat.reduceLT, Nat.reduceLeDiff, reduceIte, if_true, if_false, Bool.false_eq_true, Nat.add_zero, Nat.zero_add, ne_eq, not_false_eq_true, not_true_eq_false, Nat.not_lt_zero, Nat.add_left_cancel_iff, Nat.add_right_cancel_iff, eq_self, upd_s, pk_sub, nI_pm, Nat.add_sub_cancel, List.length_cons, List.length_nil, Nat.add_eq_zero_iff, Nat.succ_ne_zero, and_false, false_and, l14, l18, l21, l23, l24, l26, l28, l29, l34, l35, l36, l41, l42, l43, l45, l47, l48, l49, l50, l51, l52, l57, l58, l59, l62, l63, l64, l96, l97, l98, l101, l102, l103, l104, l105, l106, l107, l108, l109, l110, l111, l112, l113, l114, l115, l116, l117, l118, l119, l121, l122, l127, l255, l700, l1320, l1000000]
          by_cases q : e = c
          · rw [if_pos q, q]
          · rw [if_neg q]; exact n2 e (by omega)
      · obtain rfl : c = 16 := by omega
        have e34 : wm2.2.1 16 34 = oI (yR (daysY t (exC 0) y i)) := m5.2.1
        simp (disch := omega) only [xB_s, xB2_s, xGet_s, xPut_s, xAld_s, xAst_s, xIf_t, xBool_s, l0, l1, l2, l3, l4, l5, l6, l7, l8, l9, l10, l11, l12, l13, l15, l16, l17, l19, l20, l25, l27, l30, l31, l32, l33, l39, l40, l60, l61, l99, l100, l120, l256, l999, l1999, l99999, lm, nI_add, pk_mul, nI_leI, nI_ltI, nI_eq, wuS_1, wuS_2, wuA_1, wuA_21, wuA_22, nI_m1, m1_nI, nIlt_m1, m1lt_nI, Nat.reduceEqDiff, Nat.reduceAdd, Nat.reduceMul, Nat.reduceSub, Nat.reduceLT, Nat.reduceLeDiff, reduceIte, if_true, if_false, Bool.false_eq_true, Nat.add_zero, Nat.zero_add, ne_eq, not_false_eq_true, not_true_eq_false, Nat.not_lt_zero, Nat.add_left_cancel_iff, Nat.add_right_cancel_iff, eq_self, upd_s, pk_sub, nI_pm, Nat.add_sub_cancel, List.length_cons, List.length_nil, Nat.add_eq_zero_iff, Nat.succ_ne_zero, and_false, false_and, l14, l18, l21, l23, l24, l26, l28, l29, l34, l35, l36, l41, l42, l43, l45, l47, l48, l49, l50, l51, l52, l57, l58, l59, l62, l63, l64, l96, l97, l98, l101, l102, l103, l104, l105, l106, l107, l108, l109, l110, l111, l112, l113, l114, l115, l116, l117, l118, l119, l121, l122, l127, l255, l700, l1320, l1000000, e16, e34]
        generalize hw4 : wuA w3 23 (upd (w3.2.1 23) (17 * i + 16) (oI (yR (daysY t (exC 0) y i)))) = w4
        have F4 : Fr [] [23] wm2 w4 := by rw [← hw4]; exact F3.A (by decide)
        have lr1 : ∀ j, j < i + 1 → ∀ c, c < 17 → w4.2.1 23 (17 * j + c) = rwM (daysY t (exC 0) y j) c := by
          intro j hj c hc
          rw [← hw4, wuA_21, if_pos rfl, upd_s]
          by_cases e : j = i
          · subst e
            by_cases q : c = 16
            · subst q; rw [if_pos rfl]; rfl
            · rw [if_neg (by omega)]; exact n2 c (by omega)
          · rw [if_neg (by omega)]; exact n1 j (by omega) c hc
        have Q4 : QM wm w4 := m1.trans ⟨F4.mono (by simp) (by decide), fun k _ => by rw [F4.2.1 16 (by decide)], Or.inl (F4.1 55 (by simp))⟩
        have z4 : w4.1 0 = nI 0 := (F4.1 0 (by simp)).trans m2
        unfold P_X9_round_41 P_X10_round_83
        refine r_for i (fun m s s' => s = (nI a, nI i, nI m, wx4) ∧ s' = (nI a, nI i, nI m, w4)) ?_ (i := 0) (by omega) (by omega) (by omega) ⟨rfl, rfl⟩
        rintro m _ _ kx3 km3 hm ⟨rfl, rfl⟩ hkk3
        show R2 (B_X9_round_41 o (fun x1 x3 x4 w => kx3 (x1, x3, x4, w)) _ _ (nI a) (nI i) (nI m) wx4) (B_X10_round_83 (fun x1 x2 x3 w => km3 (x1, x2, x3, w)) _ _ (nI a) (nI i) (nI m) w4) _
        unfold B_X9_round_41 B_X10_round_83
        by_cases hml : m < i
        · have ea := x_areAlike (o := o) (i := m) (k := i) (by omega) (by omega) (g5 m (by omega)) (g5 i (by omega))
          simp (disch := omega) only [xB_s, xB2_s, xGet_s, xPut_s, xAld_s, xAst_s, xIf_t, xBool_s, l0, l1, l2, l3, l4, l5, l6, l7, l8, l9, l10, l11, l12, l13, l15, l16, l17, l19, l20, l25, l27, l30, l31, l32, l33, l39, l40, l60, l61, l99, l100, l120, l256, l999, l1999, l99999, lm, nI_add, pk_mul, nI_leI, nI_ltI, nI_eq, wuS_1, wuS_2, wuA_1, wuA_21, wuA_22, nI_m1, m1_nI, nIlt_m1, m1lt_nI, Nat.reduceEqDiff, Nat.reduceAdd, Nat.reduceMul, Nat.reduceSub, Nat.reduceLT, Nat.reduceLeDiff, reduceIte, if_true, if_false, Bool.false_eq_true, Nat.add_zero, Nat.zero_add, ne_eq, not_false_eq_true, not_true_eq_false, Nat.not_lt_zero, Nat.add_left_cancel_iff, Nat.add_right_cancel_iff, eq_self, upd_s, pk_sub, nI_pm, Nat.add_sub_cancel, List.length_cons, List.length_nil, Nat.add_eq_zero_iff, Nat.succ_ne_zero, and_false, false_and, l14, l18, l21, l23, l24, l26, l28, l29, l34, l35, l36, l41, l42, l43, l45, l47, l48, l49, l50, l51, l52, l57, l58, l59, l62, l63, l64, l96, l97, l98, l101, l102, l103, l104, l105, l106, l107, l108, l109, l110, l111, l112, l113, l114, l115, l116, l117, l118, l119, l121, l122, l127, l255, l700, l1320, l1000000, show (i ≤ m) = False from eq_false (by omega), ea]
          unfold P_X10_round_94
          refine r_forM 17 (fun c s' => ∃ f, f ≤ 1 ∧ s' = (nI a, nI i, nI m, nI f, nI c, w4) ∧ (f = 1 → ∀ e, e < c → rwM (daysY t (exC 0) y m) e = rwM (daysY t (exC 0) y i) e) ∧ (f = 0 → ∃ e, e < 17 ∧ rwM (daysY t (exC 0) y m) e ≠ rwM (daysY t (exC 0) y i) e)) ?_ (i := 0) (by omega) (by omega) ⟨1, by omega, rfl, fun _ e he => by omega, fun z => by omega⟩
          rintro c _ km4 hc ⟨f, hf, rfl, hf1, hf0⟩ hkk4
          show R2 _ (B_X10_round_94 (fun x1 x2 x3 x4 x5 w => km4 (x1, x2, x3, x4, x5, w)) _ (nI a) (nI i) (nI m) (nI f) (nI c) w4) _
          unfold B_X10_round_94 J_X10_round_137 J_X10_round_138
          by_cases hcl : c < 17
          · simp (disch := omega) only [xB_s, xB2_s, xGet_s, xPut_s, xAld_s, xAst_s, xIf_t, xBool_s, l0, l1, l2, l3, l4, l5, l6, l7, l8, l9, l10, l11, l12, l13, l15, l16, l17, l19, l20, l25, l27, l30, l31, l32, l33, l39, l40, l60, l61, l99, l100, l120, l256, l999, l1999, l99999, lm, nI_add, pk_mul, nI_leI, nI_ltI, nI_eq, wuS_1, wuS_2, wuA_1, wuA_21, wuA_22, nI_m1, m1_nI, nIlt_m1, m1lt_nI, Nat.reduceEqDiff, Nat.reduceAdd, Nat.reduceMul, Nat.reduceSub, Nat.reduceLT, Nat.reduceLeDiff, reduceIte, if_true, if_false, Bool.false_eq_true, Nat.add_zero, Nat.zero_add, ne_eq, not_false_eq_true, not_true_eq_false, Nat.not_lt_zero, Nat.add_left_cancel_iff, Nat.add_right_cancel_iff, eq_self, upd_s, pk_sub, nI_pm, Nat.add_sub_cancel, List.length_cons, List.length_nil, Nat.add_eq_zero_iff, Nat.succ_ne_zero, and_false, false_and, l14, l18, l21, l23, l24, l26, l28, l29, l34, l35, l36, l41, l42, l43, l45, l47, l48, l49, l50, l51, l52, l57, l58, l59, l62, l63, l64, l96, l97, l98, l101, l102, l103, l104, l105, l106, l107, l108, l109, l110, l111, l112, l113, l114, l115, l116, l117, l118, l119, l121, l122, l127, l255, l700, l1320, l1000000, show (17 ≤ c) = False from eq_false (by omega)]
            rcases Nat.lt_or_ge f 1 with f0 | f1
            · obtain rfl : f = 0 := by omega
              simp (disch := omega) only [xB_s, xB2_s, xGet_s, xPut_s, xAld_s, xAst_s, xIf_t, xBool_s, l0, l1, l2, l3, l4, l5, l6, l7, l8, l9, l10, l11, l12, l13, l15, l16, l17, l19, l20, l25, l27, l30, l31, l32, l33, l39, l40, l60, l61, l99, l100, l120, l256, l999, l1999, l99999, lm, nI_add, pk_mul, nI_leI, nI_ltI, nI_eq, wuS_1, wuS_2, wuA_1, wuA_21, wuA_22, nI_m1, m1_nI, nIlt_m1, m1lt_nI, Nat.reduceEqDiff, Nat.reduceAdd, Nat.reduceMul, Nat.reduceSub, Nat.reduceLT, Nat.reduceLeDiff, reduceIte, if_true, if_false, Bool.false_eq_true, Nat.add_zero, Nat.zero_add, ne_eq, not_false_eq_true, not_true_eq_false, Nat.not_lt_zero, Nat.add_left_cancel_iff, Nat.add_right_cancel_iff, eq_self, upd_s, pk_sub, nI_pm, Nat.add_sub_cancel, List.length_cons, List.length_nil, Nat.add_eq_zero_iff, Nat.succ_ne_zero, and_false, false_and, l14, l18, l21, l23, l24, l26, l28, l29, l34, l35, l36, l41, l42, l43, l45, l47, l48, l49, l50, l51, l52, l57, l58, l59, l62, l63, l64, l96, l97, l98, l101, l102, l103, l104, l105, l106, l107, l108, l109, l110, l111, l112, l113, l114, l115, l116, l117, l118, l119, l121, l122, l127, l255, l700, l1320, l1000000]
              exact hkk4 hcl _ ⟨0, by omega, rfl, fun z => by omega, fun _ => hf0 rfl⟩
            · obtain rfl : f = 1 := by omega
              simp (disch := omega) only [xB_s, xB2_s, xGet_s, xPut_s, xAld_s, xAst_s, xIf_t, xBool_s, l0, l1, l2, l3, l4, l5, l6, l7, l8, l9, l10, l11, l12, l13, l15, l16, l17, l19, l20, l25, l27, l30, l31, l32, l33, l39, l40, l60, l61, l99, l100, l120, l256, l999, l1999, l99999, lm, nI_add, pk_mul, nI_leI, nI_ltI, nI_eq, wuS_1, wuS_2, wuA_1, wuA_21, wuA_22, nI_m1, m1_nI, nIlt_m1, m1lt_nI, Nat.reduceEqDiff, Nat.reduceAdd, Nat.reduceMul, Nat.reduceSub, Nat.reduceLT, Nat.reduceLeDiff, reduceIte, if_true, if_false, Bool.false_eq_true, Nat.add_zero, Nat.zero_add, ne_eq, not_false_eq_true, not_true_eq_false, Nat.not_lt_zero, Nat.add_left_cancel_iff, Nat.add_right_cancel_iff, eq_self, upd_s, pk_sub, nI_pm, Nat.add_sub_cancel, List.length_cons, List.length_nil, Nat.add_eq_zero_iff, Nat.succ_ne_zero, and_false, false_and, l14, l18, l21, l23, l24, l26, l28, l29, l34, l35, l36, l41, l42, l43, l45, l47, l48, l49, l50, l51, l52, l57, l58, l59, l62, l63, l64, l96, l97, l98, l101, l102, l103, l104, l105, l106, l107, l108, l109, l110, l111, l112, l113, l114, l115, l116, l117, l118, l119, l121, l122, l127, l255, l700, l1320, l1000000, lr1 i (by omega) c hcl, lr1 m (by omega) c hcl]
              by_cases e : rwM (daysY t (exC 0) y i) c = rwM (daysY t (exC 0) y m) c
              · rw [if_pos e]
                refine hkk4 hcl _ ⟨1, by omega, rfl, fun _ e2 he2 => ?_, fun z => by omega⟩
                by_cases q : e2 = c
                · rw [q]; exact e.symm
                · exact hf1 rfl e2 (by omega)
              · rw [if_neg e]
                exact hkk4 hcl _ ⟨0, by omega, rfl, fun z => by omega, fun _ => ⟨c, hcl, fun q => e q.symm⟩⟩
          · obtain rfl : c = 17 := by omega
            rcases Nat.lt_or_ge f 1 with f0 | f1
            · obtain rfl : f = 0 := by omega
              have : alk (daysY t (exC 0) y m) (daysY t (exC 0) y i) = false := by
                cases hq : alk (daysY t (exC 0) y m) (daysY t (exC 0) y i) with
                | false => rfl
                | true =>
                  obtain ⟨e, he, hne⟩ := hf0 rfl
                  exact absurd ((alk_M _ _).mp hq e he) hne
              simp (disch := omega) only [xB_s, xB2_s, xGet_s, xPut_s, xAld_s, xAst_s, xIf_t, xBool_s, l0, l1, l2, l3, l4, l5, l6, l7, l8, l9, l10, l11, l12, l13, l15, l16, l17, l19, l20, l25, l27, l30, l31, l32, l33, l39, l40, l60, l61, l99, l100, l120, l256, l999, l1999, l99999, lm, nI_add, pk_mul, nI_leI, nI_ltI, nI_eq, wuS_1, wuS_2, wuA_1, wuA_21, wuA_22, nI_m1, m1_nI, nIlt_m1, m1lt_nI, Nat.reduceEqDiff, Nat.reduceAdd, Nat.reduceMul, Nat.reduceSub, Nat.reduceLT, Nat.reduceLeDiff, reduceIte, if_true, if_false, Bool.false_eq_true, Nat.add_zero, Nat.zero_add, ne_eq, not_false_eq_true, not_true_eq_false, Nat.not_lt_zero, Nat.add_left_cancel_iff, Nat.add_right_cancel_iff, eq_self, upd_s, pk_sub, nI_pm, Nat.add_sub_cancel, List.length_cons, List.length_nil, Nat.add_eq_zero_iff, Nat.succ_ne_zero, and_false, false_and, l14, l18, l21, l23, l24, l26, l28, l29, l34, l35, l36, l41, l42, l43, l45, l47, l48, l49, l50, l51, l52, l57, l58, l59, l62, l63, l64, l96, l97, l98, l101, l102, l103, l104, l105, l106, l107, l108, l109, l110, l111, l112, l113, l114, l115, l116, l117, l118, l119, l121, l122, l127, l255, l700, l1320, l1000000, this, Bool.toNat_false]
              exact hkk3 hml _ _ ⟨rfl, rfl⟩
            · obtain rfl : f = 1 := by omega
              have : alk (daysY t (exC 0) y m) (daysY t (exC 0) y i) = true := (alk_M _ _).mpr (hf1 rfl)
              simp (disch := omega) only [xB_s, xB2_s, xGet_s, xPut_s, xAld_s, xAst_s, xIf_t, xBool_s, l0, l1, l2, l3, l4, l5, l6, l7, l8, l9, l10, l11, l12, l13, l15, l16, l17, l19, l20, l25, l27, l30, l31, l32, l33, l39, l40, l60, l61, l99, l100, l120, l256, l999, l1999, l99999, lm, nI_add, pk_mul, nI_leI, nI_ltI, nI_eq, wuS_1, wuS_2, wuA_1, wuA_21, wuA_22, nI_m1, m1_nI, nIlt_m1, m1lt_nI, Nat.reduceEqDiff, Nat.reduceAdd, Nat.reduceMul, Nat.reduceSub, Nat.reduceLT, Nat.reduceLeDiff, reduceIte, if_true, if_false, Bool.false_eq_true, Nat.add_zero, Nat.zero_add, ne_eq, not_false_eq_true, not_true_eq_false, Nat.not_lt_zero, Nat.add_left_cancel_iff, Nat.add_right_cancel_iff, eq_self, upd_s, pk_sub, nI_pm, Nat.add_sub_cancel, List.length_cons, List.length_nil, Nat.add_eq_zero_iff, Nat.succ_ne_zero, and_false, false_and, l14, l18, l21, l23, l24, l26, l28, l29, l34, l35, l36, l41, l42, l43, l45, l47, l48, l49, l50, l51, l52, l57, l58, l59, l62, l63, l64, l96, l97, l98, l101, l102, l103, l104, l105, l106, l107, l108, l109, l110, l111, l112, l113, l114, l115, l116, l117, l118, l119, l121, l122, l127, l255, l700, l1320, l1000000, this, Bool.toNat_true]
              by_cases ha0 : a = 0
              · simp (disch := omega) only [xB_s, xB2_s, xGet_s, xPut_s, xAld_s, xAst_s, xIf_t, xBool_s, l0, l1, l2, l3, l4, l5, l6, l7, l8, l9, l10, l11, l12, l13, l15, l16, l17, l19, l20, l25, l27, l30, l31, l32, l33, l39, l40, l60, l61, l99, l100, l120, l256, l999, l1999, l99999, lm, nI_add, pk_mul, nI_leI, nI_ltI, nI_eq, wuS_1, wuS_2, wuA_1, wuA_21, wuA_22, nI_m1, m1_nI, nIlt_m1, m1lt_nI, Nat.reduceEqDiff, Nat.reduceAdd, Nat.reduceMul, Nat.reduceSub, Nat.reduceLT, Nat.reduceLeDiff, reduceIte, if_true, if_false, Bool.false_eq_true, Nat.add_zero, Nat.zero_add, ne_eq, not_false_eq_true, not_true_eq_false, Nat.not_lt_zero, Nat.add_left_cancel_iff, Nat.add_right_cancel_iff, eq_self, upd_s, pk_sub, nI_pm, Nat.add_sub_cancel, List.length_cons, List.length_nil, Nat.add_eq_zero_iff, Nat.succ_ne_zero, and_false, false_and, l14, l18, l21, l23, l24, l26, l28, l29, l34, l35, l36, l41, l42, l43, l45, l47, l48, l49, l50, l51, l52, l57, l58, l59, l62, l63, l64, l96, l97, l98, l101, l102, l103, l104, l105, l106, l107, l108, l109, l110, l111, l112, l113, l114, l115, l116, l117, l118, l119, l121, l122, l127, l255, l700, l1320, l1000000, ha0]
                exact QA.ok g1 Q4 z4 rfl
              · simp (disch := omega) only [xB_s, xB2_s, xGet_s, xPut_s, xAld_s, xAst_s, xIf_t, xBool_s, l0, l1, l2, l3, l4, l5, l6, l7, l8, l9, l10, l11, l12, l13, l15, l16, l17, l19, l20, l25, l27, l30, l31, l32, l33, l39, l40, l60, l61, l99, l100, l120, l256, l999, l1999, l99999, lm, nI_add, pk_mul, nI_leI, nI_ltI, nI_eq, wuS_1, wuS_2, wuA_1, wuA_21, wuA_22, nI_m1, m1_nI, nIlt_m1, m1lt_nI, Nat.reduceEqDiff, Nat.reduceAdd, Nat.reduceMul, Nat.reduceSub, Nat.reduceLT, Nat.reduceLeDiff, reduceIte, if_true, if_false, Bool.false_eq_true, Nat.add_zero, Nat.zero_add, ne_eq, not_false_eq_true, not_true_eq_false, Nat.not_lt_zero, Nat.add_left_cancel_iff, Nat.add_right_cancel_iff, eq_self, upd_s, pk_sub, nI_pm, Nat.add_sub_cancel, List.length_cons, List.length_nil, Nat.add_eq_zero_iff, Nat.succ_ne_zero, and_false, false_and, l14, l18, l21, l23, l24, l26, l28, l29, l34, l35, l36, l41, l42, l43, l45, l47, l48, l49, l50, l51, l52, l57, l58, l59, l62, l63, l64, l96, l97, l98, l101, l102, l103, l104, l105, l106, l107, l108, l109, l110, l111, l112, l113, l114, l115, l116, l117, l118, l119, l121, l122, l127, l255, l700, l1320, l1000000, ha0]
                exact QA.ok g1 Q4 z4 rfl
        · obtain rfl : m = i := by omega
          simp (disch := omega) only [xB_s, xB2_s, xGet_s, xPut_s, xAld_s, xAst_s, xIf_t, xBool_s, l0, l1, l2, l3, l4, l5, l6, l7, l8, l9, l10, l11, l12, l13, l15, l16, l17, l19, l20, l25, l27, l30, l31, l32, l33, l39, l40, l60, l61, l99, l100, l120, l256, l999, l1999, l99999, lm, nI_add, pk_mul, nI_leI, nI_ltI, nI_eq, wuS_1, wuS_2, wuA_1, wuA_21, wuA_22, nI_m1, m1_nI, nIlt_m1, m1lt_nI, Nat.reduceEqDiff, Nat.reduceAdd, Nat.reduceMul, Nat.reduceSub, Nat.reduceLT, Nat.reduceLeDiff, reduceIte, if_true, if_false, Bool.false_eq_true, Nat.add_zero, Nat.zero_add, ne_eq, not_false_eq_true, not_true_eq_false, Nat.not_lt_zero, Nat.add_left_cancel_iff, Nat.add_right_cancel_iff, eq_self, upd_s, pk_sub, nI_pm, Nat.add_sub_cancel, List.length_cons, List.length_nil, Nat.add_eq_zero_iff, Nat.succ_ne_zero, and_false, false_and, l14, l18, l21, l23, l24, l26, l28, l29, l34, l35, l36, l41, l42, l43, l45, l47, l48, l49, l50, l51, l52, l57, l58, l59, l62, l63, l64, l96, l97, l98, l101, l102, l103, l104, l105, l106, l107, l108, l109, l110, l111, l112, l113, l114, l115, l116, l117, l118, l119, l121, l122, l127, l255, l700, l1320, l1000000, Nat.le_refl]
          have T4 : TM t w4 := m3.fr F4 (by simp) (by decide)
          have X4 : EM (exC 0) w4 := m4.of (fun k _ _ => F4.1 k (by simp))
          refine R2.m (m_dayGoes T4 X4 ho (daysY_ok hy m (by omega)) (by omega) (by rw [F4.2.1 16 (by decide)]; exact m5)) ?_
          rintro w5 ⟨M5, Y5, O5⟩
          refine hkk hlt _ _ ⟨wx4, w5, rfl, rfl, ⟨g1, g2, g3, g4, g5⟩, Q4.trans (QM.f M5), (M5.1.1 0 (by decide)).trans z4, M5.T T4, M5.X X4, Y5, fun j hj c hc => ?_⟩
          rw [M5.1.2.1 23 (by decide)]; exact lr1 j hj c hc
    by_cases hi0 : i ≤ 0
    · rw [if_pos hi0]
      obtain rfl : i = 0 := by omega
      exact key wx2 c1 c2 c3 c4 c5
    · rw [if_neg hi0]
      refine R2.x (x_oneDay c2 ho (daysY_ok hy (i - 1) (by omega)) (by omega) c3 c4) ?_
      rintro wx3 ⟨F3, k3, Y3, _⟩
      obtain ⟨m, rfl⟩ : ∃ m, i = m + 1 := ⟨i - 1, by omega⟩
      refine key wx3 (c1.trans (QX.fr2 F3)) (c2.fr F3) k3 Y3 (fun j hj c hc => ?_)
      rw [F3.2.1 49 (by decide)]; exact c5 j hj c hc
  · obtain rfl : i = 41 := by omega
    simp (disch := omega) only [xB_s, xB2_s, xGet_s, xPut_s, xAld_s, xAst_s, xIf_t, xBool_s, l0, l1, l2, l3, l4, l5, l6, l7, l8, l9, l10, l11, l12, l13, l15, l16, l17, l19, l20, l25, l27, l30, l31, l32, l33, l39, l40, l60, l61, l99, l100, l120, l256, l999, l1999, l99999, lm, nI_add, pk_mul, nI_leI, nI_ltI, nI_eq, wuS_1, wuS_2, wuA_1, wuA_21, wuA_22, nI_m1, m1_nI, nIlt_m1, m1lt_nI, Nat.reduceEqDiff, Nat.reduceAdd, Nat.reduceMul, Nat.reduceSub, Nat.reduceLT, Nat.reduceLeDiff, reduceIte, if_true, if_false, Bool.false_eq_true, Nat.add_zero, Nat.zero_add, ne_eq, not_false_eq_true, not_true_eq_false, Nat.not_lt_zero, Nat.add_left_cancel_iff, Nat.add_right_cancel_iff, eq_self, upd_s, pk_sub, nI_pm, Nat.add_sub_cancel, List.length_cons, List.length_nil, Nat.add_eq_zero_iff, Nat.succ_ne_zero, and_false, false_and, l14, l18, l21, l23, l24, l26, l28, l29, l34, l35, l36, l41, l42, l43, l45, l47, l48, l49, l50, l51, l52, l57, l58, l59, l62, l63, l64, l96, l97, l98, l101, l102, l103, l104, l105, l106, l107, l108, l109, l110, l111, l112, l113, l114, l115, l116, l117, l118, l119, l121, l122, l127, l255, l700, l1320, l1000000]
    exact QA.ok c1 m1 m2 rfl
end
