section
/-! ===== bits and counts ===== -/
theorem bN_and (u v : Int32) (i : Nat) : bN (u &&& v) i = bN u i * bN v i := by
  unfold bN; rw [b_and]; cases bt u i <;> cases bt v i <;> rfl
theorem bN_or (u v : Int32) (i : Nat) : bN (u ||| v) i = max (bN u i) (bN v i) := by
  unfold bN; rw [b_or]; cases bt u i <;> cases bt v i <;> rfl
theorem bN_xm (v : Int32) {i : Nat} (hi : i < 32) : bN (v ^^^ mI) i = 1 - bN v i := by
  unfold bN
  show (bt (v ^^^ (-1)) i).toNat = _
  rw [b_xor, b_m1 i hi]; cases bt v i <;> rfl
theorem bN_msk : ∀ P, P < 9 → ∀ i, i < 32 → bN (nI 1 <<< (nI P &&& nI 31) - nI 1) i = if i < P then 1 else 0 := by decide +kernel
def ctA (r : Option Nat) (p : Nat) : Nat := if r = some p then 1 else 0
def ctS (t : Tn) (ex : Ex) (y : Yw) : Nat → Nat → Nat
  | 0, _ => 0
  | n + 1, p => ctS t ex y n p + ctA (yR (turns t ex y n)) p
def ctD (t : Tn) (ex : Ex) (y : Yw) : Nat → Nat → Nat
  | 0, _ => 0
  | n + 1, p => ctD t ex y n p + ctS t ex (daysY t ex y n) (tD t) p
theorem rgA_at {r : Option Nat} {A : Nat → Int32} {p : Nat} : rgA r A p = A p + nI (ctA r p) := by
  unfold rgA ctA
  cases r with
  | none => rw [if_neg (by simp)]; show A p = A p + 0; rw [Int32.add_zero]
  | some q =>
    show upd A q (A q + nI 1) p = _
    rw [upd_s]
    by_cases e : p = q
    · rw [if_pos e, if_pos (by rw [e]), e]
    · rw [if_neg e, if_neg (by intro z; exact e (Option.some.inj z).symm)]; show A p = A p + 0; rw [Int32.add_zero]
theorem rgS_at {t : Tn} {ex : Ex} {y : Yw} {A : Nat → Int32} {p : Nat} : ∀ n, rgS t ex y n A p = A p + nI (ctS t ex y n p)
  | 0 => by show A p = A p + 0; rw [Int32.add_zero]
  | n + 1 => by rw [rgS, rgA_at, rgS_at n, ctS, ← nI_add, Int32.add_assoc]
theorem rgD_at {t : Tn} {ex : Ex} {y : Yw} {A : Nat → Int32} {p : Nat} : ∀ n, rgD t ex y n A p = A p + nI (ctD t ex y n p)
  | 0 => by show A p = A p + 0; rw [Int32.add_zero]
  | n + 1 => by rw [rgD, rgS_at, rgD_at n, ctD, ← nI_add, Int32.add_assoc]
theorem ctA_le {r : Option Nat} {p : Nat} : ctA r p ≤ 1 := by unfold ctA; split <;> omega
theorem ctS_le {t : Tn} {ex : Ex} {y : Yw} {p : Nat} : ∀ n, ctS t ex y n p ≤ n
  | 0 => Nat.le_refl _
  | n + 1 => by
    have := ctS_le (t := t) (ex := ex) (y := y) (p := p) n
    have := ctA_le (r := yR (turns t ex y n)) (p := p)
    rw [ctS]; omega
theorem ctD_le {t : Tn} {ex : Ex} {y : Yw} {p : Nat} (ho : tOk t) : ∀ n, ctD t ex y n p ≤ 6 * n
  | 0 => Nat.le_refl _
  | n + 1 => by
    have := ctD_le (ex := ex) (y := y) (p := p) ho n
    have := ctS_le (t := t) (ex := ex) (y := daysY t ex y n) (p := p) (tD t)
    have := ho.2.1
    rw [ctD]; omega
theorem who1_bit {r : Option Nat} {v : Int32} {p : Nat} (hp : p < 32) (hr : ∀ q, r = some q → q < 32) : bN (who1 r v) p = if ctA r p = 0 then bN v p else 1 := by
  unfold who1 ctA
  cases r with
  | none => rw [if_pos (by simp)]
  | some q =>
    show bN (v ||| (nI 1 <<< (nI q &&& nI 31))) p = _
    rw [bit_or hp (hr q rfl)]
    by_cases e : p = q
    · rw [if_pos e, if_neg (by rw [e]; simp)]
    · rw [if_neg e, if_pos (by rw [if_neg (fun z => e (Option.some.inj z).symm)])]
theorem whoS_bit {t : Tn} {ex : Ex} {y : Yw} {p : Nat} (ho : tOk t) (hy : yOk t y) (hp : p < 32) : ∀ n, bN (whoS t ex y n) p = if ctS t ex y n p = 0 then 0 else 1
  | 0 => by rw [whoS, bit_0]; rfl
  | n + 1 => by
    have b1 := ho.1
    rw [whoS, who1_bit hp (fun q hq => by have := (turns_ok (ex := ex) hy n).2.1 q hq; omega), whoS_bit ho hy hp n, ctS]
    by_cases e : ctA (yR (turns t ex y n)) p = 0
    · rw [if_pos e, e, Nat.add_zero]
    · rw [if_neg e, if_neg (by omega)]
def orD (t : Tn) (ex : Ex) (y : Yw) : Nat → Int32
  | 0 => nI 0
  | n + 1 => orD t ex y n ||| whoS t ex (daysY t ex y n) (tD t)
theorem orD_bit {t : Tn} {ex : Ex} {y : Yw} {p : Nat} (ho : tOk t) (hy : yOk t y) (hp : p < 32) : ∀ n, yD y + n ≤ 2000 → bN (orD t ex y n) p = if ctD t ex y n p = 0 then 0 else 1
  | 0, _ => by rw [orD, bit_0]; rfl
  | n + 1, hn => by
    rw [orD, bN_or, orD_bit ho hy hp n (by omega), whoS_bit ho (daysY_ok hy n (by omega)) hp, ctD]
    generalize ctD t ex y n p = a
    generalize ctS t ex (daysY t ex y n) (tD t) p = b
    repeat' split
    all_goals omega
theorem m_rangIn {t : Tn} {y : Yw} {w : wS} {n : Nat} (T : TM t w) (X : EM (exC 0) w) (ho : tOk t) (hy : yOk t y) (hn : n ≤ 40) (hD : yD y + n ≤ 2000) (Y : YM y (w.2.1 16) 0) : wpO (L_X10_rangIn (nI n) w) (fun r => mF 33 w r.2 ∧ r.1 = orD t (exC 0) y n) := by
  unfold L_X10_rangIn
  refine wp_B (m_tries Y) ?_
  rintro w1 ⟨h1, _, _, h4⟩
  unfold P_X10_rangIn_8
  simp (disch := omega) only [xB_s, xB2_s, xGet_s, xPut_s, xAld_s, xAst_s, xIf_t, xBool_s, l0, l1, l2, l3, l4, l5, l6, l7, l8, l9, l10, l11, l12, l13, l15, l16, l17, l19, l20, l25, l27, l30, l31, l32, l33, l39, l40, l60, l61, l99, l100, l120, l256, l999, l1999, l99999, lm, nI_add, pk_mul, nI_leI, nI_ltI, nI_eq, wuS_1, wuS_2, wuA_1, wuA_21, wuA_22, nI_m1, m1_nI, nIlt_m1, m1lt_nI, Nat.reduceEqDiff, Nat.reduceAdd, Nat.reduceMul, Nat.reduceSub, Nat.reduceLT, Nat.reduceLeDiff, reduceIte, if_true, if_false, Bool.false_eq_true, Nat.add_zero, Nat.zero_add, ne_eq, not_false_eq_true, not_true_eq_false, Nat.not_lt_zero, Nat.add_left_cancel_iff, Nat.add_right_cancel_iff, eq_self, upd_s, pk_sub, nI_pm, Nat.add_sub_cancel, List.length_cons, List.length_nil, Nat.add_eq_zero_iff, Nat.succ_ne_zero, and_false, false_and, l14, l18, l21, l23, l24, l26, l28, l29, l34, l35, l36, l41, l42, l43, l45, l47, l48, l49, l50, l51, l52, l57, l58, l59, l62, l63, l64, l96, l97, l98, l101, l102, l103, l104, l105, l106, l107, l108, l109, l110, l111, l112, l113, l114, l115, l116, l117, l118, l119, l121, l122, l127, l255, l700, l1320, l1000000]
  refine wp_for n (fun i σ => ∃ w2, σ = (nI n, orD t (exC 0) y i, nI i, w2) ∧ mF 33 w w2 ∧ YM (daysY t (exC 0) y i) (w2.2.1 16) 33) ?_ (Nat.zero_le _) (by omega) ⟨w1, rfl, h1, h4⟩
  rintro i _ kk hi ⟨w2, rfl, hm, hY⟩ hkk
  show wpO (B_X10_rangIn_8 (fun x1 x2 x3 w => kk (x1, x2, x3, w)) _ (nI n) (orD t (exC 0) y i) (nI i) w2) _
  unfold B_X10_rangIn_8
  by_cases hlt : i < n
  · simp (disch := omega) only [xB_s, xB2_s, xGet_s, xPut_s, xAld_s, xAst_s, xIf_t, xBool_s, l0, l1, l2, l3, l4, l5, l6, l7, l8, l9, l10, l11, l12, l13, l15, l16, l17, l19, l20, l25, l27, l30, l31, l32, l33, l39, l40, l60, l61, l99, l100, l120, l256, l999, l1999, l99999, lm, nI_add, pk_mul, nI_leI, nI_ltI, nI_eq, wuS_1, wuS_2, wuA_1, wuA_21, wuA_22, nI_m1, m1_nI, nIlt_m1, m1lt_nI, Nat.reduceEqDiff, Nat.reduceAdd, Nat.reduceMul, Nat.reduceSub, Nat.reduceLT, Nat.reduceLeDiff, reduceIte, if_true, if_false, Bool.false_eq_true, Nat.add_zero, Nat.zero_add, ne_eq, not_false_eq_true, not_true_eq_false, Nat.not_lt_zero, Nat.add_left_cancel_iff, Nat.add_right_cancel_iff, eq_self, upd_s, pk_sub, nI_pm, Nat.add_sub_cancel, List.length_cons, List.length_nil, Nat.add_eq_zero_iff, Nat.succ_ne_zero, and_false, false_and, l14, l18, l21, l23, l24, l26, l28, l29, l34, l35, l36, l41, l42, l43, l45, l47, l48, l49, l50, l51, l52, l57, l58, l59, l62, l63, l64, l96, l97, l98, l101, l102, l103, l104, l105, l106, l107, l108, l109, l110, l111, l112, l113, l114, l115, l116, l117, l118, l119, l121, l122, l127, l255, l700, l1320, l1000000, show (n ≤ i) = False from eq_false (by omega)]
    refine wp_B (m_dayGoes (hm.T T) (hm.X X) ho (daysY_ok hy i (by omega)) (by omega) hY) ?_
    rintro w3 ⟨h3, hY3, hO⟩
    simp (disch := omega) only [xB_s, xB2_s, xGet_s, xPut_s, xAld_s, xAst_s, xIf_t, xBool_s, l0, l1, l2, l3, l4, l5, l6, l7, l8, l9, l10, l11, l12, l13, l15, l16, l17, l19, l20, l25, l27, l30, l31, l32, l33, l39, l40, l60, l61, l99, l100, l120, l256, l999, l1999, l99999, lm, nI_add, pk_mul, nI_leI, nI_ltI, nI_eq, wuS_1, wuS_2, wuA_1, wuA_21, wuA_22, nI_m1, m1_nI, nIlt_m1, m1lt_nI, Nat.reduceEqDiff, Nat.reduceAdd, Nat.reduceMul, Nat.reduceSub, Nat.reduceLT, Nat.reduceLeDiff, reduceIte, if_true, if_false, Bool.false_eq_true, Nat.add_zero, Nat.zero_add, ne_eq, not_false_eq_true, not_true_eq_false, Nat.not_lt_zero, Nat.add_left_cancel_iff, Nat.add_right_cancel_iff, eq_self, upd_s, pk_sub, nI_pm, Nat.add_sub_cancel, List.length_cons, List.length_nil, Nat.add_eq_zero_iff, Nat.succ_ne_zero, and_false, false_and, l14, l18, l21, l23, l24, l26, l28, l29, l34, l35, l36, l41, l42, l43, l45, l47, l48, l49, l50, l51, l52, l57, l58, l59, l62, l63, l64, l96, l97, l98, l101, l102, l103, l104, l105, l106, l107, l108, l109, l110, l111, l112, l113, l114, l115, l116, l117, l118, l119, l121, l122, l127, l255, l700, l1320, l1000000, hO.1]
    exact hkk hlt _ ⟨w3, rfl, hm.trans h3, hY3⟩
  · obtain rfl : i = n := by omega
    simp (disch := omega) only [xB_s, xB2_s, xGet_s, xPut_s, xAld_s, xAst_s, xIf_t, xBool_s, l0, l1, l2, l3, l4, l5, l6, l7, l8, l9, l10, l11, l12, l13, l15, l16, l17, l19, l20, l25, l27, l30, l31, l32, l33, l39, l40, l60, l61, l99, l100, l120, l256, l999, l1999, l99999, lm, nI_add, pk_mul, nI_leI, nI_ltI, nI_eq, wuS_1, wuS_2, wuA_1, wuA_21, wuA_22, nI_m1, m1_nI, nIlt_m1, m1lt_nI, Nat.reduceEqDiff, Nat.reduceAdd, Nat.reduceMul, Nat.reduceSub, Nat.reduceLT, Nat.reduceLeDiff, reduceIte, if_true, if_false, Bool.false_eq_true, Nat.add_zero, Nat.zero_add, ne_eq, not_false_eq_true, not_true_eq_false, Nat.not_lt_zero, Nat.add_left_cancel_iff, Nat.add_right_cancel_iff, eq_self, upd_s, pk_sub, nI_pm, Nat.add_sub_cancel, List.length_cons, List.length_nil, Nat.add_eq_zero_iff, Nat.succ_ne_zero, and_false, false_and, l14, l18, l21, l23, l24, l26, l28, l29, l34, l35, l36, l41, l42, l43, l45, l47, l48, l49, l50, l51, l52, l57, l58, l59, l62, l63, l64, l96, l97, l98, l101, l102, l103, l104, l105, l106, l107, l108, l109, l110, l111, l112, l113, l114, l115, l116, l117, l118, l119, l121, l122, l127, l255, l700, l1320, l1000000, Nat.le_refl]
    exact wp_some ⟨hm, rfl⟩
theorem q_idle {t : Tn} {y : Yw} {o : wO} {wx wm : wS} {a1 : Int32} (h : PQ t y o wx wm) : R2 (L_X9_idle o a1 wx) (L_X10_idle a1 wm) (QA cd1 wx wm) := by
  obtain ⟨w1, e1, q1, z1, T1, Y1, h1⟩ := h.put
  have hh := h
  obtain ⟨⟨ho, hy, hD⟩, ⟨hT, hY⟩, _⟩ := hh
  have b1 := ho.1
  have b2 := ho.2.1
  unfold L_X9_idle L_X10_idle J_X10_idle_35
  simp only [xB_s, xB2_s, xIf_t, xBT_n, xBT_e, l0, l1, l2, l3, l4, l5, l6, l7, l8, l9, l10, l11, l12, l13, l15, l16, l17, l19, l20, l25, l27, l30, l31, l32, l33, l39, l40, l60, l61, l99, l100, l120, l256, l999, l1999, l99999, lm, l14, l18, l21, l23, l24, l26, l28, l29, l34, l35, l36, l41, l42, l43, l45, l47, l48, l49, l50, l51, l52, l57, l58, l59, l62, l63, l64, l96, l97, l98, l101, l102, l103, l104, l105, l106, l107, l108, l109, l110, l111, l112, l113, l114, l115, l116, l117, l118, l119, l121, l122, l127, l255, l700, l1320, l1000000, e1]
  refine g_days (by omega) (by omega) (by omega) z1 (by simp (disch := omega) only [xB_s, xB2_s, xGet_s, xPut_s, xAld_s, xAst_s, xIf_t, xBool_s, l0, l1, l2, l3, l4, l5, l6, l7, l8, l9, l10, l11, l12, l13, l15, l16, l17, l19, l20, l25, l27, l30, l31, l32, l33, l39, l40, l60, l61, l99, l100, l120, l256, l999, l1999, l99999, lm, nI_add, pk_mul, nI_leI, nI_ltI, nI_eq, wuS_1, wuS_2, wuA_1, wuA_21, wuA_22, nI_m1, m1_nI, nIlt_m1, m1lt_nI, Nat.reduceEqDiff, Nat.reduceAdd, Nat.reduceMul, Nat.reduceSub, Nat.reduceLT, Nat.reduceLeDiff, reduceIte, if_true, if_false, Bool.false_eq_true, Nat.add_zero, Nat.zero_add, ne_eq, not_false_eq_true, not_true_eq_false, Nat.not_lt_zero, Nat.add_left_cancel_iff, Nat.add_right_cancel_iff, eq_self, upd_s, pk_sub, nI_pm, Nat.add_sub_cancel, List.length_cons, List.length_nil, Nat.add_eq_zero_iff, Nat.succ_ne_zero, and_false, false_and, l14, l18, l21, l23, l24, l26, l28, l29, l34, l35, l36, l41, l42, l43, l45, l47, l48, l49, l50, l51, l52, l57, l58, l59, l62, l63, l64, l96, l97, l98, l101, l102, l103, l104, l105, l106, l107, l108, l109, l110, l111, l112, l113, l114, l115, l116, l117, l118, l119, l121, l122, l127, l255, l700, l1320, l1000000]; exact QA.il1 q1) ?_
  rintro n hn1 hn2 rfl
  simp (disch := omega) only [xB_s, xB2_s, xGet_s, xPut_s, xAld_s, xAst_s, xIf_t, xBool_s, l0, l1, l2, l3, l4, l5, l6, l7, l8, l9, l10, l11, l12, l13, l15, l16, l17, l19, l20, l25, l27, l30, l31, l32, l33, l39, l40, l60, l61, l99, l100, l120, l256, l999, l1999, l99999, lm, nI_add, pk_mul, nI_leI, nI_ltI, nI_eq, wuS_1, wuS_2, wuA_1, wuA_21, wuA_22, nI_m1, m1_nI, nIlt_m1, m1lt_nI, Nat.reduceEqDiff, Nat.reduceAdd, Nat.reduceMul, Nat.reduceSub, Nat.reduceLT, Nat.reduceLeDiff, reduceIte, if_true, if_false, Bool.false_eq_true, Nat.add_zero, Nat.zero_add, ne_eq, not_false_eq_true, not_true_eq_false, Nat.not_lt_zero, Nat.add_left_cancel_iff, Nat.add_right_cancel_iff, eq_self, upd_s, pk_sub, nI_pm, Nat.add_sub_cancel, List.length_cons, List.length_nil, Nat.add_eq_zero_iff, Nat.succ_ne_zero, and_false, false_and, l14, l18, l21, l23, l24, l26, l28, l29, l34, l35, l36, l41, l42, l43, l45, l47, l48, l49, l50, l51, l52, l57, l58, l59, l62, l63, l64, l96, l97, l98, l101, l102, l103, l104, l105, l106, l107, l108, l109, l110, l111, l112, l113, l114, l115, l116, l117, l118, l119, l121, l122, l127, l255, l700, l1320, l1000000, T1.1]
  refine R2.x (x_fromNow hT ho hY) ?_
  rintro wx1 ⟨a1, a2, a3, a4, a5, a6⟩
  refine R2.x (x_manyDays a2 ho hy (by omega) a3 hn2 (by omega) a5) ?_
  rintro wx' ⟨c1, c2, c3, c4, c5⟩
  refine R2.m2 (m_rangIn T1 h1.em ho hy hn2 (by omega) Y1) ?_
  rintro v wm' ⟨m1, m2⟩
  have m2 : v = orD t (exC 0) y n := m2
  have i1 := a1.trans (QX.fr2 c1)
  have hT' := hT.q i1
  have r9 := xRef_t hT'.2.1
  have ht0 : wm'.1 0 = nI 0 := (m1.1.1 0 (by decide)).trans z1
  refine R2.wp (P := fun r => r = (.inl (nI 1 <<< (nI (tP t) &&& nI 31) - nI 1 &&& (v ^^^ mI)), wx')) (P' := fun r => r = (nI 1 <<< (nI (tP t) &&& nI 31) - nI 1 &&& (v ^^^ mI), wm')) ?_ (wp_some rfl) ?_
  · unfold P_X9_idle_22
    refine wp_for (tP t) (fun i σ => ∃ u : Int32, σ = (u, nI i, wx') ∧ ∀ k, k < 32 → bN u k = if k < i ∧ ctD t (exC 0) y n k = 0 then 1 else 0) ?_ (Nat.zero_le _) (by omega) ⟨nI 0, rfl, fun k _ => by rw [bit_0, if_neg (by omega)]⟩
    rintro i _ kk hi ⟨u, rfl, hu⟩ hkk
    show wpO (B_X9_idle_22 o (fun x3 x4 w => kk (x3, x4, w)) _ u (nI i) wx') _
    unfold B_X9_idle_22 J_X9_idle_51
    by_cases hlt : i < tP t
    · have e34 : wx'.2.1 34 i = nI (ctD t (exC 0) y n i) := by
        rw [c5, rgD_at, a6 i (by omega), nI_add, Nat.zero_add]
      have hle := ctD_le (ex := exC 0) (y := y) (p := i) ho n
      simp (disch := omega) only [xB_s, xB2_s, xGet_s, xPut_s, xAld_s, xAst_s, xIf_t, xBool_s, l0, l1, l2, l3, l4, l5, l6, l7, l8, l9, l10, l11, l12, l13, l15, l16, l17, l19, l20, l25, l27, l30, l31, l32, l33, l39, l40, l60, l61, l99, l100, l120, l256, l999, l1999, l99999, lm, nI_add, pk_mul, nI_leI, nI_ltI, nI_eq, wuS_1, wuS_2, wuA_1, wuA_21, wuA_22, nI_m1, m1_nI, nIlt_m1, m1lt_nI, Nat.reduceEqDiff, Nat.reduceAdd, Nat.reduceMul, Nat.reduceSub, Nat.reduceLT, Nat.reduceLeDiff, reduceIte, if_true, if_false, Bool.false_eq_true, Nat.add_zero, Nat.zero_add, ne_eq, not_false_eq_true, not_true_eq_false, Nat.not_lt_zero, Nat.add_left_cancel_iff, Nat.add_right_cancel_iff, eq_self, upd_s, pk_sub, nI_pm, Nat.add_sub_cancel, List.length_cons, List.length_nil, Nat.add_eq_zero_iff, Nat.succ_ne_zero, and_false, false_and, l14, l18, l21, l23, l24, l26, l28, l29, l34, l35, l36, l41, l42, l43, l45, l47, l48, l49, l50, l51, l52, l57, l58, l59, l62, l63, l64, l96, l97, l98, l101, l102, l103, l104, l105, l106, l107, l108, l109, l110, l111, l112, l113, l114, l115, l116, l117, l118, l119, l121, l122, l127, l255, l700, l1320, l1000000, r9, hT'.1.1, show (tP t ≤ i) = False from eq_false (by omega), e34]
      by_cases hz : ctD t (exC 0) y n i = 0
      · simp (disch := omega) only [xB_s, xB2_s, xGet_s, xPut_s, xAld_s, xAst_s, xIf_t, xBool_s, l0, l1, l2, l3, l4, l5, l6, l7, l8, l9, l10, l11, l12, l13, l15, l16, l17, l19, l20, l25, l27, l30, l31, l32, l33, l39, l40, l60, l61, l99, l100, l120, l256, l999, l1999, l99999, lm, nI_add, pk_mul, nI_leI, nI_ltI, nI_eq, wuS_1, wuS_2, wuA_1, wuA_21, wuA_22, nI_m1, m1_nI, nIlt_m1, m1lt_nI, Nat.reduceEqDiff, Nat.reduceAdd, Nat.reduceMul, Nat.reduceSub, Nat.reduceLT, Nat.reduceLeDiff, reduceIte, if_true, if_false, Bool.false_eq_true, Nat.add_zero, Nat.zero_add, ne_eq, not_false_eq_true, not_true_eq_false, Nat.not_lt_zero, Nat.add_left_cancel_iff, Nat.add_right_cancel_iff, eq_self, upd_s, pk_sub, nI_pm, Nat.add_sub_cancel, List.length_cons, List.length_nil, Nat.add_eq_zero_iff, Nat.succ_ne_zero, and_false, false_and, l14, l18, l21, l23, l24, l26, l28, l29, l34, l35, l36, l41, l42, l43, l45, l47, l48, l49, l50, l51, l52, l57, l58, l59, l62, l63, l64, l96, l97, l98, l101, l102, l103, l104, l105, l106, l107, l108, l109, l110, l111, l112, l113, l114, l115, l116, l117, l118, l119, l121, l122, l127, l255, l700, l1320, l1000000, hz]
        refine hkk hlt _ ⟨_, rfl, fun k hk => ?_⟩
        rw [bit_or hk (by omega), hu k hk]
        by_cases e : k = i
        · rw [if_pos e, if_pos ⟨by omega, by rw [e]; exact hz⟩]
        · rw [if_neg e]
          by_cases q : k < i ∧ ctD t (exC 0) y n k = 0
          · rw [if_pos q, if_pos ⟨by omega, q.2⟩]
          · rw [if_neg q, if_neg (fun z => q ⟨by omega, z.2⟩)]
      · simp (disch := omega) only [xB_s, xB2_s, xGet_s, xPut_s, xAld_s, xAst_s, xIf_t, xBool_s, l0, l1, l2, l3, l4, l5, l6, l7, l8, l9, l10, l11, l12, l13, l15, l16, l17, l19, l20, l25, l27, l30, l31, l32, l33, l39, l40, l60, l61, l99, l100, l120, l256, l999, l1999, l99999, lm, nI_add, pk_mul, nI_leI, nI_ltI, nI_eq, wuS_1, wuS_2, wuA_1, wuA_21, wuA_22, nI_m1, m1_nI, nIlt_m1, m1lt_nI, Nat.reduceEqDiff, Nat.reduceAdd, Nat.reduceMul, Nat.reduceSub, Nat.reduceLT, Nat.reduceLeDiff, reduceIte, if_true, if_false, Bool.false_eq_true, Nat.add_zero, Nat.zero_add, ne_eq, not_false_eq_true, not_true_eq_false, Nat.not_lt_zero, Nat.add_left_cancel_iff, Nat.add_right_cancel_iff, eq_self, upd_s, pk_sub, nI_pm, Nat.add_sub_cancel, List.length_cons, List.length_nil, Nat.add_eq_zero_iff, Nat.succ_ne_zero, and_false, false_and, l14, l18, l21, l23, l24, l26, l28, l29, l34, l35, l36, l41, l42, l43, l45, l47, l48, l49, l50, l51, l52, l57, l58, l59, l62, l63, l64, l96, l97, l98, l101, l102, l103, l104, l105, l106, l107, l108, l109, l110, l111, l112, l113, l114, l115, l116, l117, l118, l119, l121, l122, l127, l255, l700, l1320, l1000000, hz]
        refine hkk hlt _ ⟨_, rfl, fun k hk => ?_⟩
        rw [hu k hk]
        by_cases q : k < i ∧ ctD t (exC 0) y n k = 0
        · rw [if_pos q, if_pos ⟨by omega, q.2⟩]
        · rw [if_neg q, if_neg (fun z => q ⟨by
            by_cases e : k = i
            · subst e; exact absurd z.2 hz
            · omega, z.2⟩)]
    · obtain rfl : i = tP t := by omega
      simp (disch := omega) only [xB_s, xB2_s, xGet_s, xPut_s, xAld_s, xAst_s, xIf_t, xBool_s, l0, l1, l2, l3, l4, l5, l6, l7, l8, l9, l10, l11, l12, l13, l15, l16, l17, l19, l20, l25, l27, l30, l31, l32, l33, l39, l40, l60, l61, l99, l100, l120, l256, l999, l1999, l99999, lm, nI_add, pk_mul, nI_leI, nI_ltI, nI_eq, wuS_1, wuS_2, wuA_1, wuA_21, wuA_22, nI_m1, m1_nI, nIlt_m1, m1lt_nI, Nat.reduceEqDiff, Nat.reduceAdd, Nat.reduceMul, Nat.reduceSub, Nat.reduceLT, Nat.reduceLeDiff, reduceIte, if_true, if_false, Bool.false_eq_true, Nat.add_zero, Nat.zero_add, ne_eq, not_false_eq_true, not_true_eq_false, Nat.not_lt_zero, Nat.add_left_cancel_iff, Nat.add_right_cancel_iff, eq_self, upd_s, pk_sub, nI_pm, Nat.add_sub_cancel, List.length_cons, List.length_nil, Nat.add_eq_zero_iff, Nat.succ_ne_zero, and_false, false_and, l14, l18, l21, l23, l24, l26, l28, l29, l34, l35, l36, l41, l42, l43, l45, l47, l48, l49, l50, l51, l52, l57, l58, l59, l62, l63, l64, l96, l97, l98, l101, l102, l103, l104, l105, l106, l107, l108, l109, l110, l111, l112, l113, l114, l115, l116, l117, l118, l119, l121, l122, l127, l255, l700, l1320, l1000000, r9, hT'.1.1, Nat.le_refl]
      refine wp_some ?_
      have : u = nI 1 <<< (nI (tP t) &&& nI 31) - nI 1 &&& (v ^^^ mI) := by
        apply bit_ext
        intro k hk
        rw [hu k hk, bN_and, bN_msk _ (by omega) k hk, bN_xm _ hk, m2, orD_bit ho hy hk n (by omega)]
        by_cases q1 : k < tP t
        · by_cases q2 : ctD t (exC 0) y n k = 0
          · rw [if_pos ⟨q1, q2⟩, if_pos q1, if_pos q2]
          · rw [if_neg (fun z => q2 z.2), if_pos q1, if_neg q2]
        · rw [if_neg (fun z => q1 z.1), if_neg q1, Nat.zero_mul]
      rw [this]
  · rintro _ _ rfl rfl
    exact ⟨i1, q1.trans (QM.f m1), ht0, rfl⟩
theorem m_ringsOften {t : Tn} {y : Yw} {w : wS} (T : TM t w) (X : EM (exC 0) w) (ho : tOk t) (hy : yOk t y) (Y : YM y (w.2.1 16) 33) : wpO (L_X10_ringsOften w) (fun w' => Fr [49, 50, 51] [16, 18, 19, 20, 21, 22, 28] w w' ∧ (∀ k, k < 33 → w'.2.1 16 k = w.2.1 16 k) ∧ YM (dayY t (exC 0) y) (w'.2.1 16) 33 ∧ ∀ p, p < 8 → w'.2.1 28 p = w.2.1 28 p + nI (ctS t (exC 0) y (tD t) p)) := by
  have b1 := ho.1
  have b2 := ho.2.1
  have e34 : w.2.1 16 34 = oI (yR y) := Y.2.1
  unfold L_X10_ringsOften
  simp (disch := omega) only [xB_s, xB2_s, xGet_s, xPut_s, xAld_s, xAst_s, xIf_t, xBool_s, l0, l1, l2, l3, l4, l5, l6, l7, l8, l9, l10, l11, l12, l13, l15, l16, l17, l19, l20, l25, l27, l30, l31, l32, l33, l39, l40, l60, l61, l99, l100, l120, l256, l999, l1999, l99999, lm, nI_add, pk_mul, nI_leI, nI_ltI, nI_eq, wuS_1, wuS_2, wuA_1, wuA_21, wuA_22, nI_m1, m1_nI, nIlt_m1, m1lt_nI, Nat.reduceEqDiff, Nat.reduceAdd, Nat.reduceMul, Nat.reduceSub, Nat.reduceLT, Nat.reduceLeDiff, reduceIte, if_true, if_false, Bool.false_eq_true, Nat.add_zero, Nat.zero_add, ne_eq, not_false_eq_true, not_true_eq_false, Nat.not_lt_zero, Nat.add_left_cancel_iff, Nat.add_right_cancel_iff, eq_self, upd_s, pk_sub, nI_pm, Nat.add_sub_cancel, List.length_cons, List.length_nil, Nat.add_eq_zero_iff, Nat.succ_ne_zero, and_false, false_and, l14, l18, l21, l23, l24, l26, l28, l29, l34, l35, l36, l41, l42, l43, l45, l47, l48, l49, l50, l51, l52, l57, l58, l59, l62, l63, l64, l96, l97, l98, l101, l102, l103, l104, l105, l106, l107, l108, l109, l110, l111, l112, l113, l114, l115, l116, l117, l118, l119, l121, l122, l127, l255, l700, l1320, l1000000, e34]
  refine wp_B (m_dayGoes T X ho hy (by omega) Y) ?_
  rintro w1 ⟨h1, hY1, hO⟩
  have T1 := h1.T T
  unfold P_X10_ringsOften_16
  refine wp_for (tD t) (fun i σ => ∃ w2, σ = (oI (yR (turns t (exC 0) y i)), nI i, w2) ∧ Fr [] [28] w1 w2 ∧ ∀ p, p < 8 → w2.2.1 28 p = w.2.1 28 p + nI (ctS t (exC 0) y i p)) ?_ (Nat.zero_le _) (by omega) ⟨w1, rfl, Fr.refl, fun p _ => by rw [h1.1.2.1 28 (by decide)]; show _ = _ + 0; rw [Int32.add_zero]⟩
  rintro i _ kk hi ⟨w2, rfl, F, h28⟩ hkk
  show wpO (B_X10_ringsOften_16 (fun x1 x2 w => kk (x1, x2, w)) _ (oI _) (nI i) w2) _
  unfold B_X10_ringsOften_16 J_X10_ringsOften_39
  have e2 : w2.1 2 = nI (tD t) := (F.1 2 (by simp)).trans T1.2.1
  by_cases hlt : i < tD t
  · have e21 : w2.2.1 21 i = oI (yR (turns t (exC 0) y (i + 1))) := by
      rw [F.2.1 21 (by decide), hO.2.2.2.2.1 i hlt, turns, turn_yR]; rfl
    simp (disch := omega) only [xB_s, xB2_s, xGet_s, xPut_s, xAld_s, xAst_s, xIf_t, xBool_s, l0, l1, l2, l3, l4, l5, l6, l7, l8, l9, l10, l11, l12, l13, l15, l16, l17, l19, l20, l25, l27, l30, l31, l32, l33, l39, l40, l60, l61, l99, l100, l120, l256, l999, l1999, l99999, lm, nI_add, pk_mul, nI_leI, nI_ltI, nI_eq, wuS_1, wuS_2, wuA_1, wuA_21, wuA_22, nI_m1, m1_nI, nIlt_m1, m1lt_nI, Nat.reduceEqDiff, Nat.reduceAdd, Nat.reduceMul, Nat.reduceSub, Nat.reduceLT, Nat.reduceLeDiff, reduceIte, if_true, if_false, Bool.false_eq_true, Nat.add_zero, Nat.zero_add, ne_eq, not_false_eq_true, not_true_eq_false, Nat.not_lt_zero, Nat.add_left_cancel_iff, Nat.add_right_cancel_iff, eq_self, upd_s, pk_sub, nI_pm, Nat.add_sub_cancel, List.length_cons, List.length_nil, Nat.add_eq_zero_iff, Nat.succ_ne_zero, and_false, false_and, l14, l18, l21, l23, l24, l26, l28, l29, l34, l35, l36, l41, l42, l43, l45, l47, l48, l49, l50, l51, l52, l57, l58, l59, l62, l63, l64, l96, l97, l98, l101, l102, l103, l104, l105, l106, l107, l108, l109, l110, l111, l112, l113, l114, l115, l116, l117, l118, l119, l121, l122, l127, l255, l700, l1320, l1000000, e2, show (tD t ≤ i) = False from eq_false (by omega)]
    cases hr : yR (turns t (exC 0) y i) with
    | none =>
      simp (disch := omega) only [xB_s, xB2_s, xGet_s, xPut_s, xAld_s, xAst_s, xIf_t, xBool_s, l0, l1, l2, l3, l4, l5, l6, l7, l8, l9, l10, l11, l12, l13, l15, l16, l17, l19, l20, l25, l27, l30, l31, l32, l33, l39, l40, l60, l61, l99, l100, l120, l256, l999, l1999, l99999, lm, nI_add, pk_mul, nI_leI, nI_ltI, nI_eq, wuS_1, wuS_2, wuA_1, wuA_21, wuA_22, nI_m1, m1_nI, nIlt_m1, m1lt_nI, Nat.reduceEqDiff, Nat.reduceAdd, Nat.reduceMul, Nat.reduceSub, Nat.reduceLT, Nat.reduceLeDiff, reduceIte, if_true, if_false, Bool.false_eq_true, Nat.add_zero, Nat.zero_add, ne_eq, not_false_eq_true, not_true_eq_false, Nat.not_lt_zero, Nat.add_left_cancel_iff, Nat.add_right_cancel_iff, eq_self, upd_s, pk_sub, nI_pm, Nat.add_sub_cancel, List.length_cons, List.length_nil, Nat.add_eq_zero_iff, Nat.succ_ne_zero, and_false, false_and, l14, l18, l21, l23, l24, l26, l28, l29, l34, l35, l36, l41, l42, l43, l45, l47, l48, l49, l50, l51, l52, l57, l58, l59, l62, l63, l64, l96, l97, l98, l101, l102, l103, l104, l105, l106, l107, l108, l109, l110, l111, l112, l113, l114, l115, l116, l117, l118, l119, l121, l122, l127, l255, l700, l1320, l1000000, oI_n, e21]
      refine hkk hlt _ ⟨w2, rfl, F, fun p hp => ?_⟩
      rw [h28 p hp, ctS, hr]; rfl
    | some r =>
      have hrl := (turns_ok (ex := exC 0) hy i).2.1 r hr
      simp (disch := omega) only [xB_s, xB2_s, xGet_s, xPut_s, xAld_s, xAst_s, xIf_t, xBool_s, l0, l1, l2, l3, l4, l5, l6, l7, l8, l9, l10, l11, l12, l13, l15, l16, l17, l19, l20, l25, l27, l30, l31, l32, l33, l39, l40, l60, l61, l99, l100, l120, l256, l999, l1999, l99999, lm, nI_add, pk_mul, nI_leI, nI_ltI, nI_eq, wuS_1, wuS_2, wuA_1, wuA_21, wuA_22, nI_m1, m1_nI, nIlt_m1, m1lt_nI, Nat.reduceEqDiff, Nat.reduceAdd, Nat.reduceMul, Nat.reduceSub, Nat.reduceLT, Nat.reduceLeDiff, reduceIte, if_true, if_false, Bool.false_eq_true, Nat.add_zero, Nat.zero_add, ne_eq, not_false_eq_true, not_true_eq_false, Nat.not_lt_zero, Nat.add_left_cancel_iff, Nat.add_right_cancel_iff, eq_self, upd_s, pk_sub, nI_pm, Nat.add_sub_cancel, List.length_cons, List.length_nil, Nat.add_eq_zero_iff, Nat.succ_ne_zero, and_false, false_and, l14, l18, l21, l23, l24, l26, l28, l29, l34, l35, l36, l41, l42, l43, l45, l47, l48, l49, l50, l51, l52, l57, l58, l59, l62, l63, l64, l96, l97, l98, l101, l102, l103, l104, l105, l106, l107, l108, l109, l110, l111, l112, l113, l114, l115, l116, l117, l118, l119, l121, l122, l127, l255, l700, l1320, l1000000, oI_s, e21]
      refine hkk hlt _ ⟨_, rfl, F.A (by decide), fun p hp => ?_⟩
      simp (disch := omega) only [xB_s, xB2_s, xGet_s, xPut_s, xAld_s, xAst_s, xIf_t, xBool_s, l0, l1, l2, l3, l4, l5, l6, l7, l8, l9, l10, l11, l12, l13, l15, l16, l17, l19, l20, l25, l27, l30, l31, l32, l33, l39, l40, l60, l61, l99, l100, l120, l256, l999, l1999, l99999, lm, nI_add, pk_mul, nI_leI, nI_ltI, nI_eq, wuS_1, wuS_2, wuA_1, wuA_21, wuA_22, nI_m1, m1_nI, nIlt_m1, m1lt_nI, Nat.reduceEqDiff, Nat.reduceAdd, Nat.reduceMul, Nat.reduceSub, Nat.reduceLT, Nat.reduceLeDiff, reduceIte, if_true, if_false, Bool.false_eq_true, Nat.add_zero, Nat.zero_add, ne_eq, not_false_eq_true, not_true_eq_false, Nat.not_lt_zero, Nat.add_left_cancel_iff, Nat.add_right_cancel_iff, eq_self, upd_s, pk_sub, nI_pm, Nat.add_sub_cancel, List.length_cons, List.length_nil, Nat.add_eq_zero_iff, Nat.succ_ne_zero, and_false, false_and, l14, l18, l21, l23, l24, l26, l28, l29, l34, l35, l36, l41, l42, l43, l45, l47, l48, l49, l50, l51, l52, l57, l58, l59, l62, l63, l64, l96, l97, l98, l101, l102, l103, l104, l105, l106, l107, l108, l109, l110, l111, l112, l113, l114, l115, l116, l117, l118, l119, l121, l122, l127, l255, l700, l1320, l1000000]
      rw [ctS, hr, ctA]
      by_cases e : p = r
      · rw [if_pos e, if_pos (by rw [e]), ← nI_add, ← Int32.add_assoc, ← h28 p hp, e]
      · rw [if_neg e, if_neg (fun z => e (Option.some.inj z).symm), h28 p hp, Nat.add_zero]
  · obtain rfl : i = tD t := by omega
    simp (disch := omega) only [xB_s, xB2_s, xGet_s, xPut_s, xAld_s, xAst_s, xIf_t, xBool_s, l0, l1, l2, l3, l4, l5, l6, l7, l8, l9, l10, l11, l12, l13, l15, l16, l17, l19, l20, l25, l27, l30, l31, l32, l33, l39, l40, l60, l61, l99, l100, l120, l256, l999, l1999, l99999, lm, nI_add, pk_mul, nI_leI, nI_ltI, nI_eq, wuS_1, wuS_2, wuA_1, wuA_21, wuA_22, nI_m1, m1_nI, nIlt_m1, m1lt_nI, Nat.reduceEqDiff, Nat.reduceAdd, Nat.reduceMul, Nat.reduceSub, Nat.reduceLT, Nat.reduceLeDiff, reduceIte, if_true, if_false, Bool.false_eq_true, Nat.add_zero, Nat.zero_add, ne_eq, not_false_eq_true, not_true_eq_false, Nat.not_lt_zero, Nat.add_left_cancel_iff, Nat.add_right_cancel_iff, eq_self, upd_s, pk_sub, nI_pm, Nat.add_sub_cancel, List.length_cons, List.length_nil, Nat.add_eq_zero_iff, Nat.succ_ne_zero, and_false, false_and, l14, l18, l21, l23, l24, l26, l28, l29, l34, l35, l36, l41, l42, l43, l45, l47, l48, l49, l50, l51, l52, l57, l58, l59, l62, l63, l64, l96, l97, l98, l101, l102, l103, l104, l105, l106, l107, l108, l109, l110, l111, l112, l113, l114, l115, l116, l117, l118, l119, l121, l122, l127, l255, l700, l1320, l1000000, e2, Nat.le_refl]
    refine wp_some ⟨(h1.1.mono (by simp) (by decide)).trans (F.mono (by simp) (by decide)), fun k hk => ?_, ?_, h28⟩
    · rw [F.2.1 16 (by decide)]; exact h1.2 k (Or.inl hk)
    · rw [F.2.1 16 (by decide)]; exact hY1
end
