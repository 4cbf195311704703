section
/-! ===== towers ===== -/
theorem cN_lt {p q : Nat → Bool} {n l : Nat} (hl : l < n) (h1 : q l = false) (h2 : p l = true) (h : ∀ k, k < n → q k = true → p k = true) : cN q n + 1 ≤ cN p n := by
  rw [← cN_ins (p := q) (q := fun k => decide (k = l) || q k) hl h1 (by simp) (fun k _ hk => by simp [hk])]
  refine cN_sub (fun k hk z => ?_)
  rcases (Bool.or_eq_true _ _).mp z with z | z
  · rw [of_decide_eq_true z]; exact h2
  · exact h k hk z
/-- the furthest home below B -/
def fH (O : Nat → Nat) (B : Int) : Nat → Option Nat
  | 0 => none
  | p + 1 => if (O p : Int) < B then (match fH O B p with
      | none => some (O p)
      | some a => some (max a (O p))) else fH O B p
theorem fH_f {O : Nat → Nat} {B : Int} {p : Nat} (h : ¬ (O p : Int) < B) : fH O B (p + 1) = fH O B p := by
  show (if _ then _ else _) = _
  rw [if_neg h]
theorem fH_n {O : Nat → Nat} {B : Int} {p : Nat} (h : (O p : Int) < B) (hn : fH O B p = none) : fH O B (p + 1) = some (O p) := by
  show (if _ then _ else _) = _
  rw [if_pos h, hn]
theorem fH_s {O : Nat → Nat} {B : Int} {p a : Nat} (h : (O p : Int) < B) (hn : fH O B p = some a) : fH O B (p + 1) = some (max a (O p)) := by
  show (if _ then _ else _) = _
  rw [if_pos h, hn]
theorem fH_some {O : Nat → Nat} {B : Int} : ∀ {n a : Nat}, fH O B n = some a → ∃ p, p < n ∧ O p = a ∧ (a : Int) < B
  | 0, _, h => by cases h
  | n + 1, a, h => by
    by_cases c : (O n : Int) < B
    · cases e : fH O B n with
      | none =>
        rw [fH_n c e] at h
        obtain rfl := Option.some.inj h
        exact ⟨n, by omega, rfl, c⟩
      | some b =>
        rw [fH_s c e] at h
        obtain rfl := Option.some.inj h
        obtain ⟨p, h1, h2, h3⟩ := fH_some e
        rcases Nat.le_total b (O n) with z | z
        · rw [Nat.max_eq_right z]; exact ⟨n, by omega, rfl, c⟩
        · rw [Nat.max_eq_left z]; exact ⟨p, by omega, h2, h3⟩
    · rw [fH_f c] at h
      obtain ⟨p, h1, h2, h3⟩ := fH_some h
      exact ⟨p, by omega, h2, h3⟩
theorem fH_le {O : Nat → Nat} {B : Int} {n a N : Nat} (h : fH O B n = some a) (hO : ∀ p, O p ≤ N) : a ≤ N := by
  obtain ⟨p, _, h2, _⟩ := fH_some h
  rw [← h2]; exact hO p
theorem fH_neg {O : Nat → Nat} {B : Int} {n : Nat} (h : B ≤ 0) : fH O B n = none := by
  cases e : fH O B n with
  | none => rfl
  | some a =>
    obtain ⟨p, _, _, h3⟩ := fH_some e
    omega
theorem xMax_m1 {a : Nat} (ha : a < 2 ^ 31) : xMax mI (nI a) = nI a := by
  show (if mI < nI a then nI a else mI) = _
  rw [if_pos]
  have := m1lt_nI ha
  rw [this]; trivial
theorem le_nI {z : Int32} {B : Int} {a : Nat} (hz : z.toInt = B) (ha : a < 2 ^ 31) : (z ≤ nI a) = ¬ ((a : Int) < B) := by
  rw [Int32.le_iff_toInt_le, nI_toInt ha, hz]
  exact propext (by omega)
theorem le_nIn {z : Int32} {B : Int} {a : Nat} (hz : z.toInt = B) (ha : a < 2 ^ 31) (c : (a : Int) < B) : ¬ z ≤ nI a := by
  rw [le_nI hz ha]; exact fun q => q c
theorem le_nIp {z : Int32} {B : Int} {a : Nat} (hz : z.toInt = B) (ha : a < 2 ^ 31) (c : ¬ (a : Int) < B) : z ≤ nI a := by
  rw [le_nI hz ha]; exact c
theorem x_furthest {t : Tn} {o : wO} {w : wS} {z : Int32} {B : Int} (T : XT t o w) (ho : tOk t) (hz : z.toInt = B) : L_X9_furthestHome o z w = some (oI (fH (tO t) B (tP t)), w) := by
  have b1 := ho.1
  have r9 := xRef_t T.2.1
  suffices h : wpO (L_X9_furthestHome o z w) (fun r => r = (oI (fH (tO t) B (tP t)), w)) by
    obtain ⟨a, e, rfl⟩ := h; exact e
  unfold L_X9_furthestHome P_X9_furthestHome_4
  simp (disch := omega) only [xB_s, xB2_s, xGet_s, xPut_s, xAld_s, xAst_s, xIf_t, xBool_s, l0, l1, l2, l3, l4, l5, l6, l7, l8, l9, l10, l11, l12, l13, l15, l16, l17, l19, l20, l25, l27, l30, l31, l32, l33, l39, l40, l60, l61, l99, l100, l120, l256, l999, l1999, l99999, lm, nI_add, pk_mul, nI_leI, nI_ltI, nI_eq, wuS_1, wuS_2, wuA_1, wuA_21, wuA_22, nI_m1, m1_nI, nIlt_m1, m1lt_nI, Nat.reduceEqDiff, Nat.reduceAdd, Nat.reduceMul, Nat.reduceSub, Nat.reduceLT, Nat.reduceLeDiff, reduceIte, if_true, if_false, Bool.false_eq_true, Nat.add_zero, Nat.zero_add, ne_eq, not_false_eq_true, not_true_eq_false, Nat.not_lt_zero, Nat.add_left_cancel_iff, Nat.add_right_cancel_iff, eq_self, upd_s, pk_sub, nI_pm, Nat.add_sub_cancel, List.length_cons, List.length_nil, Nat.add_eq_zero_iff, Nat.succ_ne_zero, and_false, false_and, l14, l18, l21, l23, l24, l26, l28, l29, l34, l35, l36, l41, l42, l43, l45, l47, l48, l49, l50, l51, l52, l57, l58, l59, l62, l63, l64, l96, l97, l98, l101, l102, l103, l104, l105, l106, l107, l108, l109, l110, l111, l112, l113, l114, l115, l116, l117, l118, l119, l121, l122, l127, l255, l700, l1320, l1000000]
  refine wp_for (tP t) (fun i σ => σ = (z, oI (fH (tO t) B i), nI i, w)) ?_ (Nat.zero_le _) (by omega) rfl
  rintro i _ kk hi rfl hkk
  show wpO (B_X9_furthestHome_4 o (fun x1 x2 x3 w => kk (x1, x2, x3, w)) _ z (oI (fH (tO t) B i)) (nI i) w) _
  unfold B_X9_furthestHome_4 J_X9_furthestHome_42
  by_cases hlt : i < tP t
  · have hO := ho.2.2.2.2.2.1 i
    simp (disch := omega) only [xB_s, xB2_s, xGet_s, xPut_s, xAld_s, xAst_s, xIf_t, xBool_s, l0, l1, l2, l3, l4, l5, l6, l7, l8, l9, l10, l11, l12, l13, l15, l16, l17, l19, l20, l25, l27, l30, l31, l32, l33, l39, l40, l60, l61, l99, l100, l120, l256, l999, l1999, l99999, lm, nI_add, pk_mul, nI_leI, nI_ltI, nI_eq, wuS_1, wuS_2, wuA_1, wuA_21, wuA_22, nI_m1, m1_nI, nIlt_m1, m1lt_nI, Nat.reduceEqDiff, Nat.reduceAdd, Nat.reduceMul, Nat.reduceSub, Nat.reduceLT, Nat.reduceLeDiff, reduceIte, if_true, if_false, Bool.false_eq_true, Nat.add_zero, Nat.zero_add, ne_eq, not_false_eq_true, not_true_eq_false, Nat.not_lt_zero, Nat.add_left_cancel_iff, Nat.add_right_cancel_iff, eq_self, upd_s, pk_sub, nI_pm, Nat.add_sub_cancel, List.length_cons, List.length_nil, Nat.add_eq_zero_iff, Nat.succ_ne_zero, and_false, false_and, l14, l18, l21, l23, l24, l26, l28, l29, l34, l35, l36, l41, l42, l43, l45, l47, l48, l49, l50, l51, l52, l57, l58, l59, l62, l63, l64, l96, l97, l98, l101, l102, l103, l104, l105, l106, l107, l108, l109, l110, l111, l112, l113, l114, l115, l116, l117, l118, l119, l121, l122, l127, l255, l700, l1320, l1000000, r9, T.1.1, show (tP t ≤ i) = False from eq_false (by omega), T.1.2.2.2.2.1 i hlt]
    by_cases c : (tO t i : Int) < B
    · rw [if_neg (le_nIn hz (by omega) c)]
      cases e : fH (tO t) B i with
      | none =>
        rw [oI_n, xMax_m1 (by omega)]
        exact hkk hlt _ (by rw [fH_n c e, oI_s])
      | some a =>
        have ha := fH_le e (fun p => ho.2.2.2.2.2.1 p)
        rw [oI_s, xMax_n (by omega) (by omega)]
        exact hkk hlt _ (by rw [fH_s c e, oI_s])
    · rw [if_pos (le_nIp hz (by omega) c)]
      exact hkk hlt _ (by rw [fH_f c])
  · obtain rfl : i = tP t := by omega
    simp (disch := omega) only [xB_s, xB2_s, xGet_s, xPut_s, xAld_s, xAst_s, xIf_t, xBool_s, l0, l1, l2, l3, l4, l5, l6, l7, l8, l9, l10, l11, l12, l13, l15, l16, l17, l19, l20, l25, l27, l30, l31, l32, l33, l39, l40, l60, l61, l99, l100, l120, l256, l999, l1999, l99999, lm, nI_add, pk_mul, nI_leI, nI_ltI, nI_eq, wuS_1, wuS_2, wuA_1, wuA_21, wuA_22, nI_m1, m1_nI, nIlt_m1, m1lt_nI, Nat.reduceEqDiff, Nat.reduceAdd, Nat.reduceMul, Nat.reduceSub, Nat.reduceLT, Nat.reduceLeDiff, reduceIte, if_true, if_false, Bool.false_eq_true, Nat.add_zero, Nat.zero_add, ne_eq, not_false_eq_true, not_true_eq_false, Nat.not_lt_zero, Nat.add_left_cancel_iff, Nat.add_right_cancel_iff, eq_self, upd_s, pk_sub, nI_pm, Nat.add_sub_cancel, List.length_cons, List.length_nil, Nat.add_eq_zero_iff, Nat.succ_ne_zero, and_false, false_and, l14, l18, l21, l23, l24, l26, l28, l29, l34, l35, l36, l41, l42, l43, l45, l47, l48, l49, l50, l51, l52, l57, l58, l59, l62, l63, l64, l96, l97, l98, l101, l102, l103, l104, l105, l106, l107, l108, l109, l110, l111, l112, l113, l114, l115, l116, l117, l118, l119, l121, l122, l127, l255, l700, l1320, l1000000, r9, T.1.1, Nat.le_refl]
    exact wp_some rfl
theorem q_towers {t : Tn} {y : Yw} {o : wO} {wx wm : wS} {a1 a2 : Int32} (h : PQ t y o wx wm) : R2 (L_X9_towers o a1 a2 wx) (L_X10_towers a1 a2 wm) (QA cdN wx wm) := by
  obtain ⟨w1, e1, q1, z1, T1, Y1, h1⟩ := h.put
  have hh := h
  obtain ⟨⟨ho, hy, hD⟩, ⟨hT, hY⟩, _⟩ := hh
  have b1 := ho.1
  have hO := ho.2.2.2.2.2.1
  unfold L_X9_towers L_X10_towers J_X10_towers_29
  simp only [xB_s, xB2_s, xIf_t, xBT_n, xBT_e, l0, l1, l2, l3, l4, l5, l6, l7, l8, l9, l10, l11, l12, l13, l15, l16, l17, l19, l20, l25, l27, l30, l31, l32, l33, l39, l40, l60, l61, l99, l100, l120, l256, l999, l1999, l99999, lm, l14, l18, l21, l23, l24, l26, l28, l29, l34, l35, l36, l41, l42, l43, l45, l47, l48, l49, l50, l51, l52, l57, l58, l59, l62, l63, l64, l96, l97, l98, l101, l102, l103, l104, l105, l106, l107, l108, l109, l110, l111, l112, l113, l114, l115, l116, l117, l118, l119, l121, l122, l127, l255, l700, l1320, l1000000, e1]
  refine g_what (by omega) z1 (by simp (disch := omega) only [xB_s, xB2_s, xGet_s, xPut_s, xAld_s, xAst_s, xIf_t, xBool_s, l0, l1, l2, l3, l4, l5, l6, l7, l8, l9, l10, l11, l12, l13, l15, l16, l17, l19, l20, l25, l27, l30, l31, l32, l33, l39, l40, l60, l61, l99, l100, l120, l256, l999, l1999, l99999, lm, nI_add, pk_mul, nI_leI, nI_ltI, nI_eq, wuS_1, wuS_2, wuA_1, wuA_21, wuA_22, nI_m1, m1_nI, nIlt_m1, m1lt_nI, Nat.reduceEqDiff, Nat.reduceAdd, Nat.reduceMul, Nat.reduceSub, Nat.reduceLT, Nat.reduceLeDiff, reduceIte, if_true, if_false, Bool.false_eq_true, Nat.add_zero, Nat.zero_add, ne_eq, not_false_eq_true, not_true_eq_false, Nat.not_lt_zero, Nat.add_left_cancel_iff, Nat.add_right_cancel_iff, eq_self, upd_s, pk_sub, nI_pm, Nat.add_sub_cancel, List.length_cons, List.length_nil, Nat.add_eq_zero_iff, Nat.succ_ne_zero, and_false, false_and, l14, l18, l21, l23, l24, l26, l28, l29, l34, l35, l36, l41, l42, l43, l45, l47, l48, l49, l50, l51, l52, l57, l58, l59, l62, l63, l64, l96, l97, l98, l101, l102, l103, l104, l105, l106, l107, l108, l109, l110, l111, l112, l113, l114, l115, l116, l117, l118, l119, l121, l122, l127, l255, l700, l1320, l1000000]; exact QA.no q1) ?_
  rintro a ha rfl
  simp (disch := omega) only [xB_s, xB2_s, xGet_s, xPut_s, xAld_s, xAst_s, xIf_t, xBool_s, l0, l1, l2, l3, l4, l5, l6, l7, l8, l9, l10, l11, l12, l13, l15, l16, l17, l19, l20, l25, l27, l30, l31, l32, l33, l39, l40, l60, l61, l99, l100, l120, l256, l999, l1999, l99999, lm, nI_add, pk_mul, nI_leI, nI_ltI, nI_eq, wuS_1, wuS_2, wuA_1, wuA_21, wuA_22, nI_m1, m1_nI, nIlt_m1, m1lt_nI, Nat.reduceEqDiff, Nat.reduceAdd, Nat.reduceMul, Nat.reduceSub, Nat.reduceLT, Nat.reduceLeDiff, reduceIte, if_true, if_false, Bool.false_eq_true, Nat.add_zero, Nat.zero_add, ne_eq, not_false_eq_true, not_true_eq_false, Nat.not_lt_zero, Nat.add_left_cancel_iff, Nat.add_right_cancel_iff, eq_self, upd_s, pk_sub, nI_pm, Nat.add_sub_cancel, List.length_cons, List.length_nil, Nat.add_eq_zero_iff, Nat.succ_ne_zero, and_false, false_and, l14, l18, l21, l23, l24, l26, l28, l29, l34, l35, l36, l41, l42, l43, l45, l47, l48, l49, l50, l51, l52, l57, l58, l59, l62, l63, l64, l96, l97, l98, l101, l102, l103, l104, l105, l106, l107, l108, l109, l110, l111, l112, l113, l114, l115, l116, l117, l118, l119, l121, l122, l127, l255, l700, l1320, l1000000]
  refine g_range (by omega) (by omega) (by omega) (by omega) z1 (by simp (disch := omega) only [xB_s, xB2_s, xGet_s, xPut_s, xAld_s, xAst_s, xIf_t, xBool_s, l0, l1, l2, l3, l4, l5, l6, l7, l8, l9, l10, l11, l12, l13, l15, l16, l17, l19, l20, l25, l27, l30, l31, l32, l33, l39, l40, l60, l61, l99, l100, l120, l256, l999, l1999, l99999, lm, nI_add, pk_mul, nI_leI, nI_ltI, nI_eq, wuS_1, wuS_2, wuA_1, wuA_21, wuA_22, nI_m1, m1_nI, nIlt_m1, m1lt_nI, Nat.reduceEqDiff, Nat.reduceAdd, Nat.reduceMul, Nat.reduceSub, Nat.reduceLT, Nat.reduceLeDiff, reduceIte, if_true, if_false, Bool.false_eq_true, Nat.add_zero, Nat.zero_add, ne_eq, not_false_eq_true, not_true_eq_false, Nat.not_lt_zero, Nat.add_left_cancel_iff, Nat.add_right_cancel_iff, eq_self, upd_s, pk_sub, nI_pm, Nat.add_sub_cancel, List.length_cons, List.length_nil, Nat.add_eq_zero_iff, Nat.succ_ne_zero, and_false, false_and, l14, l18, l21, l23, l24, l26, l28, l29, l34, l35, l36, l41, l42, l43, l45, l47, l48, l49, l50, l51, l52, l57, l58, l59, l62, l63, l64, l96, l97, l98, l101, l102, l103, l104, l105, l106, l107, l108, l109, l110, l111, l112, l113, l114, l115, l116, l117, l118, l119, l121, l122, l127, l255, l700, l1320, l1000000]; exact QA.il q1) ?_
  rintro r hr1 hr2 rfl
  simp (disch := omega) only [xB_s, xB2_s, xGet_s, xPut_s, xAld_s, xAst_s, xIf_t, xBool_s, l0, l1, l2, l3, l4, l5, l6, l7, l8, l9, l10, l11, l12, l13, l15, l16, l17, l19, l20, l25, l27, l30, l31, l32, l33, l39, l40, l60, l61, l99, l100, l120, l256, l999, l1999, l99999, lm, nI_add, pk_mul, nI_leI, nI_ltI, nI_eq, wuS_1, wuS_2, wuA_1, wuA_21, wuA_22, nI_m1, m1_nI, nIlt_m1, m1lt_nI, Nat.reduceEqDiff, Nat.reduceAdd, Nat.reduceMul, Nat.reduceSub, Nat.reduceLT, Nat.reduceLeDiff, reduceIte, if_true, if_false, Bool.false_eq_true, Nat.add_zero, Nat.zero_add, ne_eq, not_false_eq_true, not_true_eq_false, Nat.not_lt_zero, Nat.add_left_cancel_iff, Nat.add_right_cancel_iff, eq_self, upd_s, pk_sub, nI_pm, Nat.add_sub_cancel, List.length_cons, List.length_nil, Nat.add_eq_zero_iff, Nat.succ_ne_zero, and_false, false_and, l14, l18, l21, l23, l24, l26, l28, l29, l34, l35, l36, l41, l42, l43, l45, l47, l48, l49, l50, l51, l52, l57, l58, l59, l62, l63, l64, l96, l97, l98, l101, l102, l103, l104, l105, l106, l107, l108, l109, l110, l111, l112, l113, l114, l115, l116, l117, l118, l119, l121, l122, l127, l255, l700, l1320, l1000000]
  unfold P_X9_towers_21 P_X10_towers_40
  refine r_for 8 (fun i s s' => ∃ (v z : Int32) (B : Int), s = (nI r, nI a, v, z, nI i, wx) ∧ s' = (nI r, nI a, nI i, v, z, w1) ∧ z.toInt = B ∧ -30 ≤ B ∧ B ≤ 31 ∧ cN (fun p => decide ((tO t p : Int) < B)) (tP t) + i ≤ 8 ∧ pcI v = i ∧ ∀ j, j < 32 → bN v j = 1 → B + r ≤ j) ?_ (i := 0) (by omega) (by omega) (by omega) ⟨nI 0, nI 31, 31, rfl, rfl, by decide, by omega, by omega, ?_, ?_, fun j hj hb => by rw [bit_0] at hb; exact Nat.noConfusion hb⟩
  · rintro i _ _ kx km hi ⟨v, z, B, rfl, rfl, hz, hB1, hB2, hcn, hpc, hbits⟩ hkk
    show R2 (B_X9_towers_21 o (fun x1 x2 x3 x4 x5 w => kx (x1, x2, x3, x4, x5, w)) _ _ (nI r) (nI a) v z (nI i) wx) (B_X10_towers_40 (fun x1 x2 x3 x4 x5 w => km (x1, x2, x3, x4, x5, w)) _ _ (nI r) (nI a) (nI i) v z w1) _
    have ef := x_furthest (z := z) hT ho hz
    have fin : fH (tO t) B (tP t) = none → ∀ om, (om = J_X10_towers_120 (nI i) w1 ∨ om = J_X10_towers_120 v w1) → True := fun _ _ _ => trivial
    have resx : ∀ om, (a = 0 → om = some (nI i, w1)) → (a ≠ 0 → om = some (v, w1)) → R2 (J_X9_towers_74 o (nI a) v wx) om (QA cdN wx wm) := by
      intro om g1 g2
      unfold J_X9_towers_74 J_X9_towers_86
      have := bc32 v
      by_cases ha0 : a = 0
      · rw [g1 ha0]
        simp (disch := omega) only [xB_s, xB2_s, xGet_s, xPut_s, xAld_s, xAst_s, xIf_t, xBool_s, l0, l1, l2, l3, l4, l5, l6, l7, l8, l9, l10, l11, l12, l13, l15, l16, l17, l19, l20, l25, l27, l30, l31, l32, l33, l39, l40, l60, l61, l99, l100, l120, l256, l999, l1999, l99999, lm, nI_add, pk_mul, nI_leI, nI_ltI, nI_eq, wuS_1, wuS_2, wuA_1, wuA_21, wuA_22, nI_m1, m1_nI, nIlt_m1, m1lt_nI, Nat.reduceEqDiff, Nat.reduceAdd, Nat.reduceMul, Nat.reduceSub, Nat.reduceLT, Nat.reduceLeDiff, reduceIte, if_true, if_false, Bool.false_eq_true, Nat.add_zero, Nat.zero_add, ne_eq, not_false_eq_true, not_true_eq_false, Nat.not_lt_zero, Nat.add_left_cancel_iff, Nat.add_right_cancel_iff, eq_self, upd_s, pk_sub, nI_pm, Nat.add_sub_cancel, List.length_cons, List.length_nil, Nat.add_eq_zero_iff, Nat.succ_ne_zero, and_false, false_and, l14, l18, l21, l23, l24, l26, l28, l29, l34, l35, l36, l41, l42, l43, l45, l47, l48, l49, l50, l51, l52, l57, l58, l59, l62, l63, l64, l96, l97, l98, l101, l102, l103, l104, l105, l106, l107, l108, l109, l110, l111, l112, l113, l114, l115, l116, l117, l118, l119, l121, l122, l127, l255, l700, l1320, l1000000, ha0, this]
        exact QA.ok QX.refl q1 z1 (by rw [hpc])
      · rw [g2 ha0]
        simp (disch := omega) only [xB_s, xB2_s, xGet_s, xPut_s, xAld_s, xAst_s, xIf_t, xBool_s, l0, l1, l2, l3, l4, l5, l6, l7, l8, l9, l10, l11, l12, l13, l15, l16, l17, l19, l20, l25, l27, l30, l31, l32, l33, l39, l40, l60, l61, l99, l100, l120, l256, l999, l1999, l99999, lm, nI_add, pk_mul, nI_leI, nI_ltI, nI_eq, wuS_1, wuS_2, wuA_1, wuA_21, wuA_22, nI_m1, m1_nI, nIlt_m1, m1lt_nI, Nat.reduceEqDiff, Nat.reduceAdd, Nat.reduceMul, Nat.reduceSub, Nat.reduceLT, Nat.reduceLeDiff, reduceIte, if_true, if_false, Bool.false_eq_true, Nat.add_zero, Nat.zero_add, ne_eq, not_false_eq_true, not_true_eq_false, Nat.not_lt_zero, Nat.add_left_cancel_iff, Nat.add_right_cancel_iff, eq_self, upd_s, pk_sub, nI_pm, Nat.add_sub_cancel, List.length_cons, List.length_nil, Nat.add_eq_zero_iff, Nat.succ_ne_zero, and_false, false_and, l14, l18, l21, l23, l24, l26, l28, l29, l34, l35, l36, l41, l42, l43, l45, l47, l48, l49, l50, l51, l52, l57, l58, l59, l62, l63, l64, l96, l97, l98, l101, l102, l103, l104, l105, l106, l107, l108, l109, l110, l111, l112, l113, l114, l115, l116, l117, l118, l119, l121, l122, l127, l255, l700, l1320, l1000000, ha0]
        exact QA.ok QX.refl q1 z1 rfl
    unfold B_X9_towers_21 B_X10_towers_40
    have e0 : (z ≤ nI 0) = (B ≤ 0) := by
      rw [Int32.le_iff_toInt_le, nI_toInt (by omega), hz]; rfl
    simp (disch := omega) only [xB_s, xB2_s, xGet_s, xPut_s, xAld_s, xAst_s, xIf_t, xBool_s, l0, l1, l2, l3, l4, l5, l6, l7, l8, l9, l10, l11, l12, l13, l15, l16, l17, l19, l20, l25, l27, l30, l31, l32, l33, l39, l40, l60, l61, l99, l100, l120, l256, l999, l1999, l99999, lm, nI_add, pk_mul, nI_leI, nI_ltI, nI_eq, wuS_1, wuS_2, wuA_1, wuA_21, wuA_22, nI_m1, m1_nI, nIlt_m1, m1lt_nI, Nat.reduceEqDiff, Nat.reduceAdd, Nat.reduceMul, Nat.reduceSub, Nat.reduceLT, Nat.reduceLeDiff, reduceIte, if_true, if_false, Bool.false_eq_true, Nat.add_zero, Nat.zero_add, ne_eq, not_false_eq_true, not_true_eq_false, Nat.not_lt_zero, Nat.add_left_cancel_iff, Nat.add_right_cancel_iff, eq_self, upd_s, pk_sub, nI_pm, Nat.add_sub_cancel, List.length_cons, List.length_nil, Nat.add_eq_zero_iff, Nat.succ_ne_zero, and_false, false_and, l14, l18, l21, l23, l24, l26, l28, l29, l34, l35, l36, l41, l42, l43, l45, l47, l48, l49, l50, l51, l52, l57, l58, l59, l62, l63, l64, l96, l97, l98, l101, l102, l103, l104, l105, l106, l107, l108, l109, l110, l111, l112, l113, l114, l115, l116, l117, l118, l119, l121, l122, l127, l255, l700, l1320, l1000000, ef, e0]
    by_cases hp : 0 < B
    · rw [if_neg (show ¬ B ≤ 0 by omega)]
      unfold P_X10_towers_51
      refine r_forM (tP t) (fun j s' => s' = (nI r, nI a, nI i, v, z, oI (fH (tO t) B j), nI j, w1)) ?_ (i := 0) (by omega) (by omega) rfl
      rintro j _ km2 hj rfl hkk2
      show R2 _ (B_X10_towers_51 (fun x1 x2 x3 x4 x5 x6 x7 w => km2 (x1, x2, x3, x4, x5, x6, x7, w)) _ (nI r) (nI a) (nI i) v z (oI (fH (tO t) B j)) (nI j) w1) _
      unfold B_X10_towers_51 J_X10_towers_94 J_X10_towers_96
      by_cases hjl : j < tP t
      · have hOj := hO j
        simp (disch := omega) only [xB_s, xB2_s, xGet_s, xPut_s, xAld_s, xAst_s, xIf_t, xBool_s, l0, l1, l2, l3, l4, l5, l6, l7, l8, l9, l10, l11, l12, l13, l15, l16, l17, l19, l20, l25, l27, l30, l31, l32, l33, l39, l40, l60, l61, l99, l100, l120, l256, l999, l1999, l99999, lm, nI_add, pk_mul, nI_leI, nI_ltI, nI_eq, wuS_1, wuS_2, wuA_1, wuA_21, wuA_22, nI_m1, m1_nI, nIlt_m1, m1lt_nI, Nat.reduceEqDiff, Nat.reduceAdd, Nat.reduceMul, Nat.reduceSub, Nat.reduceLT, Nat.reduceLeDiff, reduceIte, if_true, if_false, Bool.false_eq_true, Nat.add_zero, Nat.zero_add, ne_eq, not_false_eq_true, not_true_eq_false, Nat.not_lt_zero, Nat.add_left_cancel_iff, Nat.add_right_cancel_iff, eq_self, upd_s, pk_sub, nI_pm, Nat.add_sub_cancel, List.length_cons, List.length_nil, Nat.add_eq_zero_iff, Nat.succ_ne_zero, and_false, false_and, l14, l18, l21, l23, l24, l26, l28, l29, l34, l35, l36, l41, l42, l43, l45, l47, l48, l49, l50, l51, l52, l57, l58, l59, l62, l63, l64, l96, l97, l98, l101, l102, l103, l104, l105, l106, l107, l108, l109, l110, l111, l112, l113, l114, l115, l116, l117, l118, l119, l121, l122, l127, l255, l700, l1320, l1000000, T1.1, show (tP t ≤ j) = False from eq_false (by omega), T1.2.2.2.2.2.1 j hjl]
        by_cases c : (tO t j : Int) < B
        · rw [if_neg (le_nIn hz (by omega) c)]
          cases e : fH (tO t) B j with
          | none =>
            simp (disch := omega) only [xB_s, xB2_s, xGet_s, xPut_s, xAld_s, xAst_s, xIf_t, xBool_s, l0, l1, l2, l3, l4, l5, l6, l7, l8, l9, l10, l11, l12, l13, l15, l16, l17, l19, l20, l25, l27, l30, l31, l32, l33, l39, l40, l60, l61, l99, l100, l120, l256, l999, l1999, l99999, lm, nI_add, pk_mul, nI_leI, nI_ltI, nI_eq, wuS_1, wuS_2, wuA_1, wuA_21, wuA_22, nI_m1, m1_nI, nIlt_m1, m1lt_nI, Nat.reduceEqDiff, Nat.reduceAdd, Nat.reduceMul, Nat.reduceSub, Nat.reduceLT, Nat.reduceLeDiff, reduceIte, if_true, if_false, Bool.false_eq_true, Nat.add_zero, Nat.zero_add, ne_eq, not_false_eq_true, not_true_eq_false, Nat.not_lt_zero, Nat.add_left_cancel_iff, Nat.add_right_cancel_iff, eq_self, upd_s, pk_sub, nI_pm, Nat.add_sub_cancel, List.length_cons, List.length_nil, Nat.add_eq_zero_iff, Nat.succ_ne_zero, and_false, false_and, l14, l18, l21, l23, l24, l26, l28, l29, l34, l35, l36, l41, l42, l43, l45, l47, l48, l49, l50, l51, l52, l57, l58, l59, l62, l63, l64, l96, l97, l98, l101, l102, l103, l104, l105, l106, l107, l108, l109, l110, l111, l112, l113, l114, l115, l116, l117, l118, l119, l121, l122, l127, l255, l700, l1320, l1000000, oI_n]
            exact hkk2 hjl _ (by rw [fH_n c e, oI_s])
          | some b =>
            have hb := fH_le e (fun p => hO p)
            simp (disch := omega) only [xB_s, xB2_s, xGet_s, xPut_s, xAld_s, xAst_s, xIf_t, xBool_s, l0, l1, l2, l3, l4, l5, l6, l7, l8, l9, l10, l11, l12, l13, l15, l16, l17, l19, l20, l25, l27, l30, l31, l32, l33, l39, l40, l60, l61, l99, l100, l120, l256, l999, l1999, l99999, lm, nI_add, pk_mul, nI_leI, nI_ltI, nI_eq, wuS_1, wuS_2, wuA_1, wuA_21, wuA_22, nI_m1, m1_nI, nIlt_m1, m1lt_nI, Nat.reduceEqDiff, Nat.reduceAdd, Nat.reduceMul, Nat.reduceSub, Nat.reduceLT, Nat.reduceLeDiff, reduceIte, if_true, if_false, Bool.false_eq_true, Nat.add_zero, Nat.zero_add, ne_eq, not_false_eq_true, not_true_eq_false, Nat.not_lt_zero, Nat.add_left_cancel_iff, Nat.add_right_cancel_iff, eq_self, upd_s, pk_sub, nI_pm, Nat.add_sub_cancel, List.length_cons, List.length_nil, Nat.add_eq_zero_iff, Nat.succ_ne_zero, and_false, false_and, l14, l18, l21, l23, l24, l26, l28, l29, l34, l35, l36, l41, l42, l43, l45, l47, l48, l49, l50, l51, l52, l57, l58, l59, l62, l63, l64, l96, l97, l98, l101, l102, l103, l104, l105, l106, l107, l108, l109, l110, l111, l112, l113, l114, l115, l116, l117, l118, l119, l121, l122, l127, l255, l700, l1320, l1000000, oI_s]
            by_cases g : tO t j ≤ b
            · rw [if_pos g]
              exact hkk2 hjl _ (by rw [fH_s c e, oI_s, Nat.max_eq_left g])
            · rw [if_neg g]
              exact hkk2 hjl _ (by rw [fH_s c e, oI_s, Nat.max_eq_right (by omega)])
        · rw [if_pos (le_nIp hz (by omega) c)]
          exact hkk2 hjl _ (by rw [fH_f c])
      · obtain rfl : j = tP t := by omega
        simp (disch := omega) only [xB_s, xB2_s, xGet_s, xPut_s, xAld_s, xAst_s, xIf_t, xBool_s, l0, l1, l2, l3, l4, l5, l6, l7, l8, l9, l10, l11, l12, l13, l15, l16, l17, l19, l20, l25, l27, l30, l31, l32, l33, l39, l40, l60, l61, l99, l100, l120, l256, l999, l1999, l99999, lm, nI_add, pk_mul, nI_leI, nI_ltI, nI_eq, wuS_1, wuS_2, wuA_1, wuA_21, wuA_22, nI_m1, m1_nI, nIlt_m1, m1lt_nI, Nat.reduceEqDiff, Nat.reduceAdd, Nat.reduceMul, Nat.reduceSub, Nat.reduceLT, Nat.reduceLeDiff, reduceIte, if_true, if_false, Bool.false_eq_true, Nat.add_zero, Nat.zero_add, ne_eq, not_false_eq_true, not_true_eq_false, Nat.not_lt_zero, Nat.add_left_cancel_iff, Nat.add_right_cancel_iff, eq_self, upd_s, pk_sub, nI_pm, Nat.add_sub_cancel, List.length_cons, List.length_nil, Nat.add_eq_zero_iff, Nat.succ_ne_zero, and_false, false_and, l14, l18, l21, l23, l24, l26, l28, l29, l34, l35, l36, l41, l42, l43, l45, l47, l48, l49, l50, l51, l52, l57, l58, l59, l62, l63, l64, l96, l97, l98, l101, l102, l103, l104, l105, l106, l107, l108, l109, l110, l111, l112, l113, l114, l115, l116, l117, l118, l119, l121, l122, l127, l255, l700, l1320, l1000000, T1.1, Nat.le_refl]
        cases e : fH (tO t) B (tP t) with
        | none =>
          simp (disch := omega) only [xB_s, xB2_s, xGet_s, xPut_s, xAld_s, xAst_s, xIf_t, xBool_s, l0, l1, l2, l3, l4, l5, l6, l7, l8, l9, l10, l11, l12, l13, l15, l16, l17, l19, l20, l25, l27, l30, l31, l32, l33, l39, l40, l60, l61, l99, l100, l120, l256, l999, l1999, l99999, lm, nI_add, pk_mul, nI_leI, nI_ltI, nI_eq, wuS_1, wuS_2, wuA_1, wuA_21, wuA_22, nI_m1, m1_nI, nIlt_m1, m1lt_nI, Nat.reduceEqDiff, Nat.reduceAdd, Nat.reduceMul, Nat.reduceSub, Nat.reduceLT, Nat.reduceLeDiff, reduceIte, if_true, if_false, Bool.false_eq_true, Nat.add_zero, Nat.zero_add, ne_eq, not_false_eq_true, not_true_eq_false, Nat.not_lt_zero, Nat.add_left_cancel_iff, Nat.add_right_cancel_iff, eq_self, upd_s, pk_sub, nI_pm, Nat.add_sub_cancel, List.length_cons, List.length_nil, Nat.add_eq_zero_iff, Nat.succ_ne_zero, and_false, false_and, l14, l18, l21, l23, l24, l26, l28, l29, l34, l35, l36, l41, l42, l43, l45, l47, l48, l49, l50, l51, l52, l57, l58, l59, l62, l63, l64, l96, l97, l98, l101, l102, l103, l104, l105, l106, l107, l108, l109, l110, l111, l112, l113, l114, l115, l116, l117, l118, l119, l121, l122, l127, l255, l700, l1320, l1000000, oI_n, J_X10_towers_120]
          by_cases h8 : 8 ≤ i
          · rw [if_pos h8]
            exact resx _ (fun g => by simp (disch := omega) only [xB_s, xB2_s, xGet_s, xPut_s, xAld_s, xAst_s, xIf_t, xBool_s, l0, l1, l2, l3, l4, l5, l6, l7, l8, l9, l10, l11, l12, l13, l15, l16, l17, l19, l20, l25, l27, l30, l31, l32, l33, l39, l40, l60, l61, l99, l100, l120, l256, l999, l1999, l99999, lm, nI_add, pk_mul, nI_leI, nI_ltI, nI_eq, wuS_1, wuS_2, wuA_1, wuA_21, wuA_22, nI_m1, m1_nI, nIlt_m1, m1lt_nI, Nat.reduceEqDiff, Nat.reduceAdd, Nat.reduceMul, Nat.reduceSub, Nat.reduceLT, Nat.reduceLeDiff, reduceIte, if_true, if_false, Bool.false_eq_true, Nat.add_zero, Nat.zero_add, ne_eq, not_false_eq_true, not_true_eq_false, Nat.not_lt_zero, Nat.add_left_cancel_iff, Nat.add_right_cancel_iff, eq_self, upd_s, pk_sub, nI_pm, Nat.add_sub_cancel, List.length_cons, List.length_nil, Nat.add_eq_zero_iff, Nat.succ_ne_zero, and_false, false_and, l14, l18, l21, l23, l24, l26, l28, l29, l34, l35, l36, l41, l42, l43, l45, l47, l48, l49, l50, l51, l52, l57, l58, l59, l62, l63, l64, l96, l97, l98, l101, l102, l103, l104, l105, l106, l107, l108, l109, l110, l111, l112, l113, l114, l115, l116, l117, l118, l119, l121, l122, l127, l255, l700, l1320, l1000000, g]) (fun g => by simp (disch := omega) only [xB_s, xB2_s, xGet_s, xPut_s, xAld_s, xAst_s, xIf_t, xBool_s, l0, l1, l2, l3, l4, l5, l6, l7, l8, l9, l10, l11, l12, l13, l15, l16, l17, l19, l20, l25, l27, l30, l31, l32, l33, l39, l40, l60, l61, l99, l100, l120, l256, l999, l1999, l99999, lm, nI_add, pk_mul, nI_leI, nI_ltI, nI_eq, wuS_1, wuS_2, wuA_1, wuA_21, wuA_22, nI_m1, m1_nI, nIlt_m1, m1lt_nI, Nat.reduceEqDiff, Nat.reduceAdd, Nat.reduceMul, Nat.reduceSub, Nat.reduceLT, Nat.reduceLeDiff, reduceIte, if_true, if_false, Bool.false_eq_true, Nat.add_zero, Nat.zero_add, ne_eq, not_false_eq_true, not_true_eq_false, Nat.not_lt_zero, Nat.add_left_cancel_iff, Nat.add_right_cancel_iff, eq_self, upd_s, pk_sub, nI_pm, Nat.add_sub_cancel, List.length_cons, List.length_nil, Nat.add_eq_zero_iff, Nat.succ_ne_zero, and_false, false_and, l14, l18, l21, l23, l24, l26, l28, l29, l34, l35, l36, l41, l42, l43, l45, l47, l48, l49, l50, l51, l52, l57, l58, l59, l62, l63, l64, l96, l97, l98, l101, l102, l103, l104, l105, l106, l107, l108, l109, l110, l111, l112, l113, l114, l115, l116, l117, l118, l119, l121, l122, l127, l255, l700, l1320, l1000000, g])
          · rw [if_neg h8]
            exact resx _ (fun g => by simp (disch := omega) only [xB_s, xB2_s, xGet_s, xPut_s, xAld_s, xAst_s, xIf_t, xBool_s, l0, l1, l2, l3, l4, l5, l6, l7, l8, l9, l10, l11, l12, l13, l15, l16, l17, l19, l20, l25, l27, l30, l31, l32, l33, l39, l40, l60, l61, l99, l100, l120, l256, l999, l1999, l99999, lm, nI_add, pk_mul, nI_leI, nI_ltI, nI_eq, wuS_1, wuS_2, wuA_1, wuA_21, wuA_22, nI_m1, m1_nI, nIlt_m1, m1lt_nI, Nat.reduceEqDiff, Nat.reduceAdd, Nat.reduceMul, Nat.reduceSub, Nat.reduceLT, Nat.reduceLeDiff, reduceIte, if_true, if_false, Bool.false_eq_true, Nat.add_zero, Nat.zero_add, ne_eq, not_false_eq_true, not_true_eq_false, Nat.not_lt_zero, Nat.add_left_cancel_iff, Nat.add_right_cancel_iff, eq_self, upd_s, pk_sub, nI_pm, Nat.add_sub_cancel, List.length_cons, List.length_nil, Nat.add_eq_zero_iff, Nat.succ_ne_zero, and_false, false_and, l14, l18, l21, l23, l24, l26, l28, l29, l34, l35, l36, l41, l42, l43, l45, l47, l48, l49, l50, l51, l52, l57, l58, l59, l62, l63, l64, l96, l97, l98, l101, l102, l103, l104, l105, l106, l107, l108, l109, l110, l111, l112, l113, l114, l115, l116, l117, l118, l119, l121, l122, l127, l255, l700, l1320, l1000000, g]) (fun g => by simp (disch := omega) only [xB_s, xB2_s, xGet_s, xPut_s, xAld_s, xAst_s, xIf_t, xBool_s, l0, l1, l2, l3, l4, l5, l6, l7, l8, l9, l10, l11, l12, l13, l15, l16, l17, l19, l20, l25, l27, l30, l31, l32, l33, l39, l40, l60, l61, l99, l100, l120, l256, l999, l1999, l99999, lm, nI_add, pk_mul, nI_leI, nI_ltI, nI_eq, wuS_1, wuS_2, wuA_1, wuA_21, wuA_22, nI_m1, m1_nI, nIlt_m1, m1lt_nI, Nat.reduceEqDiff, Nat.reduceAdd, Nat.reduceMul, Nat.reduceSub, Nat.reduceLT, Nat.reduceLeDiff, reduceIte, if_true, if_false, Bool.false_eq_true, Nat.add_zero, Nat.zero_add, ne_eq, not_false_eq_true, not_true_eq_false, Nat.not_lt_zero, Nat.add_left_cancel_iff, Nat.add_right_cancel_iff, eq_self, upd_s, pk_sub, nI_pm, Nat.add_sub_cancel, List.length_cons, List.length_nil, Nat.add_eq_zero_iff, Nat.succ_ne_zero, and_false, false_and, l14, l18, l21, l23, l24, l26, l28, l29, l34, l35, l36, l41, l42, l43, l45, l47, l48, l49, l50, l51, l52, l57, l58, l59, l62, l63, l64, l96, l97, l98, l101, l102, l103, l104, l105, l106, l107, l108, l109, l110, l111, l112, l113, l114, l115, l116, l117, l118, l119, l121, l122, l127, l255, l700, l1320, l1000000, g])
        | some b =>
          have hb := fH_le e (fun p => hO p)
          obtain ⟨p, hpP, hpO, hbB⟩ := fH_some e
          have hlt : i < 8 := by
            have : 1 ≤ cN (fun p => decide ((tO t p : Int) < B)) (tP t) := by
              have := cN_lt (p := fun p => decide ((tO t p : Int) < B)) (q := fun _ => false) hpP rfl (decide_eq_true (by rw [hpO]; exact hbB)) (fun k _ z => Bool.noConfusion z)
              omega
            omega
          have em := xMax_sub (a := b) (b := r) (by omega) (by omega)
          simp (disch := omega) only [xB_s, xB2_s, xGet_s, xPut_s, xAld_s, xAst_s, xIf_t, xBool_s, l0, l1, l2, l3, l4, l5, l6, l7, l8, l9, l10, l11, l12, l13, l15, l16, l17, l19, l20, l25, l27, l30, l31, l32, l33, l39, l40, l60, l61, l99, l100, l120, l256, l999, l1999, l99999, lm, nI_add, pk_mul, nI_leI, nI_ltI, nI_eq, wuS_1, wuS_2, wuA_1, wuA_21, wuA_22, nI_m1, m1_nI, nIlt_m1, m1lt_nI, Nat.reduceEqDiff, Nat.reduceAdd, Nat.reduceMul, Nat.reduceSub, Nat.reduceLT, Nat.reduceLeDiff, reduceIte, if_true, if_false, Bool.false_eq_true, Nat.add_zero, Nat.zero_add, ne_eq, not_false_eq_true, not_true_eq_false, Nat.not_lt_zero, Nat.add_left_cancel_iff, Nat.add_right_cancel_iff, eq_self, upd_s, pk_sub, nI_pm, Nat.add_sub_cancel, List.length_cons, List.length_nil, Nat.add_eq_zero_iff, Nat.succ_ne_zero, and_false, false_and, l14, l18, l21, l23, l24, l26, l28, l29, l34, l35, l36, l41, l42, l43, l45, l47, l48, l49, l50, l51, l52, l57, l58, l59, l62, l63, l64, l96, l97, l98, l101, l102, l103, l104, l105, l106, l107, l108, l109, l110, l111, l112, l113, l114, l115, l116, l117, l118, l119, l121, l122, l127, l255, l700, l1320, l1000000, oI_s, show (8 ≤ i) = False from eq_false (by omega), J_X10_towers_135]
          rw [em]
          have nx := hkk hlt (nI r, nI a, v ||| (nI 1 <<< (nI (b - r) &&& nI 31)), nI (b - r) - nI r, nI (i + 1), wx) (nI r, nI a, nI (i + 1), v ||| (nI 1 <<< (nI (b - r) &&& nI 31)), nI (b - r) - nI r, w1) ⟨_, _, ((b - r : Nat) : Int) - r, rfl, rfl, pk_sub_toInt (by omega) (by omega), by omega, by omega, ?_, ?_, ?_⟩
          · by_cases g : r ≤ b
            · rw [if_pos g]
              exact nx
            · rw [if_neg g]
              rw [show b - r = 0 by omega] at nx
              rw [show b - r = 0 by omega]
              exact nx
          · have := cN_lt (p := fun p => decide ((tO t p : Int) < B)) (q := fun p => decide ((tO t p : Int) < ((b - r : Nat) : Int) - r)) hpP (decide_eq_false (by rw [hpO]; omega)) (decide_eq_true (by rw [hpO]; exact hbB)) (fun k _ z => decide_eq_true (by have := of_decide_eq_true z; omega))
            omega
          · have hz0 : bN v (b - r) = 0 := by
              rcases bN_01 v (b - r) with q | q
              · exact q
              · have := hbits (b - r) (by omega) q
                omega
            unfold pcI at hpc ⊢
            rw [cN_ins (p := fun i => decide (bN v i = 1)) (l := b - r) (by omega) (by rw [hz0]; rfl) (by rw [bit_or (by omega) (by omega), if_pos rfl]; rfl) (fun k hk hkl => by show decide _ = decide _; rw [bit_or hk (by omega), if_neg hkl]), hpc]
          · intro j hj hbj
            rw [bit_or hj (by omega)] at hbj
            by_cases g : j = b - r
            · omega
            · rw [if_neg g] at hbj
              have := hbits j hj hbj
              omega
    · have hp : B ≤ 0 := by omega
      rw [if_pos hp]
      have e := fH_neg (O := tO t) (n := tP t) hp
      rw [e]
      simp (disch := omega) only [xB_s, xB2_s, xGet_s, xPut_s, xAld_s, xAst_s, xIf_t, xBool_s, l0, l1, l2, l3, l4, l5, l6, l7, l8, l9, l10, l11, l12, l13, l15, l16, l17, l19, l20, l25, l27, l30, l31, l32, l33, l39, l40, l60, l61, l99, l100, l120, l256, l999, l1999, l99999, lm, nI_add, pk_mul, nI_leI, nI_ltI, nI_eq, wuS_1, wuS_2, wuA_1, wuA_21, wuA_22, nI_m1, m1_nI, nIlt_m1, m1lt_nI, Nat.reduceEqDiff, Nat.reduceAdd, Nat.reduceMul, Nat.reduceSub, Nat.reduceLT, Nat.reduceLeDiff, reduceIte, if_true, if_false, Bool.false_eq_true, Nat.add_zero, Nat.zero_add, ne_eq, not_false_eq_true, not_true_eq_false, Nat.not_lt_zero, Nat.add_left_cancel_iff, Nat.add_right_cancel_iff, eq_self, upd_s, pk_sub, nI_pm, Nat.add_sub_cancel, List.length_cons, List.length_nil, Nat.add_eq_zero_iff, Nat.succ_ne_zero, and_false, false_and, l14, l18, l21, l23, l24, l26, l28, l29, l34, l35, l36, l41, l42, l43, l45, l47, l48, l49, l50, l51, l52, l57, l58, l59, l62, l63, l64, l96, l97, l98, l101, l102, l103, l104, l105, l106, l107, l108, l109, l110, l111, l112, l113, l114, l115, l116, l117, l118, l119, l121, l122, l127, l255, l700, l1320, l1000000, oI_n, J_X10_towers_168]
      by_cases h8 : 8 ≤ i
      · rw [if_pos h8]
        exact resx _ (fun g => by simp (disch := omega) only [xB_s, xB2_s, xGet_s, xPut_s, xAld_s, xAst_s, xIf_t, xBool_s, l0, l1, l2, l3, l4, l5, l6, l7, l8, l9, l10, l11, l12, l13, l15, l16, l17, l19, l20, l25, l27, l30, l31, l32, l33, l39, l40, l60, l61, l99, l100, l120, l256, l999, l1999, l99999, lm, nI_add, pk_mul, nI_leI, nI_ltI, nI_eq, wuS_1, wuS_2, wuA_1, wuA_21, wuA_22, nI_m1, m1_nI, nIlt_m1, m1lt_nI, Nat.reduceEqDiff, Nat.reduceAdd, Nat.reduceMul, Nat.reduceSub, Nat.reduceLT, Nat.reduceLeDiff, reduceIte, if_true, if_false, Bool.false_eq_true, Nat.add_zero, Nat.zero_add, ne_eq, not_false_eq_true, not_true_eq_false, Nat.not_lt_zero, Nat.add_left_cancel_iff, Nat.add_right_cancel_iff, eq_self, upd_s, pk_sub, nI_pm, Nat.add_sub_cancel, List.length_cons, List.length_nil, Nat.add_eq_zero_iff, Nat.succ_ne_zero, and_false, false_and, l14, l18, l21, l23, l24, l26, l28, l29, l34, l35, l36, l41, l42, l43, l45, l47, l48, l49, l50, l51, l52, l57, l58, l59, l62, l63, l64, l96, l97, l98, l101, l102, l103, l104, l105, l106, l107, l108, l109, l110, l111, l112, l113, l114, l115, l116, l117, l118, l119, l121, l122, l127, l255, l700, l1320, l1000000, g]) (fun g => by simp (disch := omega) only [xB_s, xB2_s, xGet_s, xPut_s, xAld_s, xAst_s, xIf_t, xBool_s, l0, l1, l2, l3, l4, l5, l6, l7, l8, l9, l10, l11, l12, l13, l15, l16, l17, l19, l20, l25, l27, l30, l31, l32, l33, l39, l40, l60, l61, l99, l100, l120, l256, l999, l1999, l99999, lm, nI_add, pk_mul, nI_leI, nI_ltI, nI_eq, wuS_1, wuS_2, wuA_1, wuA_21, wuA_22, nI_m1, m1_nI, nIlt_m1, m1lt_nI, Nat.reduceEqDiff, Nat.reduceAdd, Nat.reduceMul, Nat.reduceSub, Nat.reduceLT, Nat.reduceLeDiff, reduceIte, if_true, if_false, Bool.false_eq_true, Nat.add_zero, Nat.zero_add, ne_eq, not_false_eq_true, not_true_eq_false, Nat.not_lt_zero, Nat.add_left_cancel_iff, Nat.add_right_cancel_iff, eq_self, upd_s, pk_sub, nI_pm, Nat.add_sub_cancel, List.length_cons, List.length_nil, Nat.add_eq_zero_iff, Nat.succ_ne_zero, and_false, false_and, l14, l18, l21, l23, l24, l26, l28, l29, l34, l35, l36, l41, l42, l43, l45, l47, l48, l49, l50, l51, l52, l57, l58, l59, l62, l63, l64, l96, l97, l98, l101, l102, l103, l104, l105, l106, l107, l108, l109, l110, l111, l112, l113, l114, l115, l116, l117, l118, l119, l121, l122, l127, l255, l700, l1320, l1000000, g])
      · rw [if_neg h8]
        exact resx _ (fun g => by simp (disch := omega) only [xB_s, xB2_s, xGet_s, xPut_s, xAld_s, xAst_s, xIf_t, xBool_s, l0, l1, l2, l3, l4, l5, l6, l7, l8, l9, l10, l11, l12, l13, l15, l16, l17, l19, l20, l25, l27, l30, l31, l32, l33, l39, l40, l60, l61, l99, l100, l120, l256, l999, l1999, l99999, lm, nI_add, pk_mul, nI_leI, nI_ltI, nI_eq, wuS_1, wuS_2, wuA_1, wuA_21, wuA_22, nI_m1, m1_nI, nIlt_m1, m1lt_nI, Nat.reduceEqDiff, Nat.reduceAdd, Nat.reduceMul, Nat.reduceSub, Nat.reduceLT, Nat.reduceLeDiff, reduceIte, if_true, if_false, Bool.false_eq_true, Nat.add_zero, Nat.zero_add, ne_eq, not_false_eq_true, not_true_eq_false, Nat.not_lt_zero, Nat.add_left_cancel_iff, Nat.add_right_cancel_iff, eq_self, upd_s, pk_sub, nI_pm, Nat.add_sub_cancel, List.length_cons, List.length_nil, Nat.add_eq_zero_iff, Nat.succ_ne_zero, and_false, false_and, l14, l18, l21, l23, l24, l26, l28, l29, l34, l35, l36, l41, l42, l43, l45, l47, l48, l49, l50, l51, l52, l57, l58, l59, l62, l63, l64, l96, l97, l98, l101, l102, l103, l104, l105, l106, l107, l108, l109, l110, l111, l112, l113, l114, l115, l116, l117, l118, l119, l121, l122, l127, l255, l700, l1320, l1000000, g]) (fun g => by simp (disch := omega) only [xB_s, xB2_s, xGet_s, xPut_s, xAld_s, xAst_s, xIf_t, xBool_s, l0, l1, l2, l3, l4, l5, l6, l7, l8, l9, l10, l11, l12, l13, l15, l16, l17, l19, l20, l25, l27, l30, l31, l32, l33, l39, l40, l60, l61, l99, l100, l120, l256, l999, l1999, l99999, lm, nI_add, pk_mul, nI_leI, nI_ltI, nI_eq, wuS_1, wuS_2, wuA_1, wuA_21, wuA_22, nI_m1, m1_nI, nIlt_m1, m1lt_nI, Nat.reduceEqDiff, Nat.reduceAdd, Nat.reduceMul, Nat.reduceSub, Nat.reduceLT, Nat.reduceLeDiff, reduceIte, if_true, if_false, Bool.false_eq_true, Nat.add_zero, Nat.zero_add, ne_eq, not_false_eq_true, not_true_eq_false, Nat.not_lt_zero, Nat.add_left_cancel_iff, Nat.add_right_cancel_iff, eq_self, upd_s, pk_sub, nI_pm, Nat.add_sub_cancel, List.length_cons, List.length_nil, Nat.add_eq_zero_iff, Nat.succ_ne_zero, and_false, false_and, l14, l18, l21, l23, l24, l26, l28, l29, l34, l35, l36, l41, l42, l43, l45, l47, l48, l49, l50, l51, l52, l57, l58, l59, l62, l63, l64, l96, l97, l98, l101, l102, l103, l104, l105, l106, l107, l108, l109, l110, l111, l112, l113, l114, l115, l116, l117, l118, l119, l121, l122, l127, l255, l700, l1320, l1000000, g])
  · have := cN_le (fun p => decide ((tO t p : Int) < 31)) (tP t)
    omega
  · unfold pcI
    rw [cN_cong (q := fun _ => false) (fun k hk => by rw [bit_0]; rfl)]
    decide
end
