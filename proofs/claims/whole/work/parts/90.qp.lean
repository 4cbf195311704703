section
/-! ===== rota ===== -/
def p8 (T : Nat) : Nat := cN (fun i => T.testBit i) 8
theorem tk_bc : ∀ T, T < 256 → L_J6_bitCount_0f7a4 (nI T) = some (nI (p8 T)) := by decide +kernel
theorem tk_or : ∀ T, T < 256 → ∀ p, p < 8 → nI T ||| (nI 1 <<< (nI p &&& nI 31)) = nI (T ||| 2 ^ p) := by decide +kernel
theorem tk_set : ∀ T, T < 256 → ∀ p, p < 8 → bN (nI T) p = 0 → p8 (T ||| 2 ^ p) = p8 T + 1 ∧ T < T ||| 2 ^ p := by decide +kernel
theorem tk_lt : ∀ P, P < 9 → ∀ T, T < 2 ^ P → ∀ p, p < P → T ||| 2 ^ p < 2 ^ P := fun P _ T hT p hp => Nat.or_lt_two_pow hT (Nat.pow_lt_pow_right (by omega) hp)
theorem tk_shl : ∀ P, P < 9 → (nI 1 <<< (nI P &&& nI 31)) = nI (2 ^ P) := by decide +kernel
theorem tk_P {P : Nat} (h : P ≤ 8) : 2 ^ P ≤ 256 := Nat.pow_le_pow_right (by omega) h
theorem p8_le (T : Nat) : p8 T ≤ 8 := cN_le _ _
/-- the least of those who may -/
def vI (may : Nat → Bool) (g : Nat → Nat) (F : Nat) : Nat → Nat
  | 0 => F
  | p + 1 => if may p = true then min (vI may g F p) (g p) else vI may g F p
theorem vI_n {may : Nat → Bool} {g : Nat → Nat} {F p : Nat} (h : may p = false) : vI may g F (p + 1) = vI may g F p := by
  show (if _ then _ else _) = _
  rw [if_neg (by simp [h])]
theorem vI_y {may : Nat → Bool} {g : Nat → Nat} {F p : Nat} (h : may p = true) : vI may g F (p + 1) = min (vI may g F p) (g p) := by
  show (if _ then _ else _) = _
  rw [if_pos h]
def vR (P D : Nat) (may : Nat → Nat → Bool) (wy : Nat → Nat → Nat) (F : Nat) : Nat → Nat → Nat
  | 0, _ => 0
  | k + 1, T => vI (may T) (fun p => wy p (D - (k + 1)) + vR P D may wy F k (T ||| 2 ^ p)) F P
def rl (k a b : Nat) : Prop := (a = b ∧ a ≤ 330 * k) ∨ (a = 1000000 ∧ b = 99999)
theorem vR_rl {P D : Nat} {may : Nat → Nat → Bool} {wy : Nat → Nat → Nat} (hw : ∀ p d, wy p d ≤ 330) : ∀ {k : Nat} (T : Nat), k ≤ 6 → rl k (vR P D may wy 1000000 k T) (vR P D may wy 99999 k T)
  | 0, T, _ => Or.inl ⟨rfl, Nat.zero_le _⟩
  | k + 1, T, hk => by
    show rl (k + 1) (vI (may T) (fun p => wy p (D - (k + 1)) + vR P D may wy 1000000 k (T ||| 2 ^ p)) 1000000 P) (vI (may T) (fun p => wy p (D - (k + 1)) + vR P D may wy 99999 k (T ||| 2 ^ p)) 99999 P)
    have h : ∀ n, rl (k + 1) (vI (may T) (fun p => wy p (D - (k + 1)) + vR P D may wy 1000000 k (T ||| 2 ^ p)) 1000000 n) (vI (may T) (fun p => wy p (D - (k + 1)) + vR P D may wy 99999 k (T ||| 2 ^ p)) 99999 n) := by
      intro n
      induction n with
      | zero => exact Or.inr ⟨rfl, rfl⟩
      | succ n ih =>
        cases hm : may T n with
        | false => rw [vI_n hm, vI_n hm]; exact ih
        | true =>
          have h1 := vR_rl (P := P) (D := D) (may := may) hw (T ||| 2 ^ n) (show k ≤ 6 by omega)
          have h2 := hw n (D - (k + 1))
          rw [vI_y hm, vI_y hm]
          unfold rl at *
          omega
    exact h P
theorem vI_at {may : Nat → Bool} {g : Nat → Nat} {F : Nat} : ∀ {n : Nat}, vI may g F n ≠ F → ∃ p, p < n ∧ may p = true ∧ g p = vI may g F n
  | 0, h => absurd rfl h
  | n + 1, h => by
    cases hm : may n with
    | false =>
      rw [vI_n hm] at h ⊢
      obtain ⟨p, h1, h2, h3⟩ := vI_at h
      exact ⟨p, by omega, h2, h3⟩
    | true =>
      rw [vI_y hm] at h ⊢
      rcases Nat.le_total (g n) (vI may g F n) with e | e
      · rw [Nat.min_eq_right e]; exact ⟨n, by omega, hm, rfl⟩
      · rw [Nat.min_eq_left e] at h ⊢
        obtain ⟨p, h1, h2, h3⟩ := vI_at h
        exact ⟨p, by omega, h2, h3⟩
theorem vI_le {may : Nat → Bool} {g : Nat → Nat} {F : Nat} : ∀ n, vI may g F n ≤ F
  | 0 => Nat.le_refl _
  | n + 1 => by
    have := vI_le (may := may) (g := g) (F := F) n
    cases hm : may n with
    | false => rw [vI_n hm]; exact this
    | true => rw [vI_y hm]; omega
theorem vR_le {P D : Nat} {may : Nat → Nat → Bool} {wy : Nat → Nat → Nat} {F : Nat} (k T : Nat) : vR P D may wy F k T ≤ F := by
  cases k with
  | zero => exact Nat.zero_le _
  | succ k => exact vI_le P
/-- who may have a duty -/
def myR (t : Tn) (y : Yw) (T p : Nat) : Bool := decide (bN (nI T) p = 0) && (decide (tK t p = 0) && decide (bN (yI y) p = 0))
theorem myR_iff {t : Tn} {y : Yw} {T p : Nat} : myR t y T p = true ↔ bN (nI T) p = 0 ∧ tK t p = 0 ∧ bN (yI y) p = 0 := by
  unfold myR
  simp only [Bool.and_eq_true, decide_eq_true_eq]
theorem myR_f {t : Tn} {y : Yw} {T p : Nat} (h : ¬ (bN (nI T) p = 0 ∧ tK t p = 0 ∧ bN (yI y) p = 0)) : myR t y T p = false := by
  cases e : myR t y T p with
  | false => rfl
  | true => exact absurd (myR_iff.mp e) h
theorem x_mayHave {t : Tn} {y : Yw} {o : wO} {w : wS} {p T : Nat} (hT : XT t o w) (ho : tOk t) (hY : XY y (w.2.1 14)) (hp : p < tP t) : L_X9_mayHave o (nI p) (nI T) w = some (nI (myR t y T p).toNat, w) := by
  have b1 := ho.1
  have r9 := xRef_t hT.2.1
  have ei := x_isIll13 (o := o) hY.2.2.2.2.2.2 (show p < 8 by omega)
  have c1 := bN_le (nI T) p
  have c2 := bN_le (yI y) p
  have c3 := ho.2.2.2.1 p
  unfold L_X9_mayHave J_X9_mayHave_38 J_X9_mayHave_39
  simp (disch := omega) only [xB_s, xB2_s, xGet_s, xPut_s, xAld_s, xAst_s, xIf_t, xBool_s, l0, l1, l2, l3, l4, l5, l6, l7, l8, l9, l10, l11, l12, l13, l15, l16, l17, l19, l20, l25, l27, l30, l31, l32, l33, l39, l40, l60, l61, l99, l100, l120, l256, l999, l1999, l99999, lm, nI_add, pk_mul, nI_leI, nI_ltI, nI_eq, wuS_1, wuS_2, wuA_1, wuA_21, wuA_22, nI_m1, m1_nI, nIlt_m1, m1lt_nI, Nat.reduceEqDiff, Nat.reduceAdd, Nat.reduceMul, Nat.reduceSub, Nat.reduceLT, Nat.reduceLeDiff, reduceIte, if_true, if_false, Bool.false_eq_true, Nat.add_zero, Nat.zero_add, ne_eq, not_false_eq_true, not_true_eq_false, Nat.not_lt_zero, Nat.add_left_cancel_iff, Nat.add_right_cancel_iff, eq_self, upd_s, pk_sub, nI_pm, Nat.add_sub_cancel, List.length_cons, List.length_nil, Nat.add_eq_zero_iff, Nat.succ_ne_zero, and_false, false_and, l14, l18, l21, l23, l24, l26, l28, l29, l34, l35, l36, l41, l42, l43, l45, l47, l48, l49, l50, l51, l52, l57, l58, l59, l62, l63, l64, l96, l97, l98, l101, l102, l103, l104, l105, l106, l107, l108, l109, l110, l111, l112, l113, l114, l115, l116, l117, l118, l119, l121, l122, l127, l255, l700, l1320, l1000000, r9, bit_s, hT.1.2.2.2.1 p hp, ei]
  by_cases e1 : bN (nI T) p = 0
  · by_cases e2 : tK t p = 0
    · by_cases e3 : bN (yI y) p = 0
      · simp (disch := omega) only [xB_s, xB2_s, xGet_s, xPut_s, xAld_s, xAst_s, xIf_t, xBool_s, l0, l1, l2, l3, l4, l5, l6, l7, l8, l9, l10, l11, l12, l13, l15, l16, l17, l19, l20, l25, l27, l30, l31, l32, l33, l39, l40, l60, l61, l99, l100, l120, l256, l999, l1999, l99999, lm, nI_add, pk_mul, nI_leI, nI_ltI, nI_eq, wuS_1, wuS_2, wuA_1, wuA_21, wuA_22, nI_m1, m1_nI, nIlt_m1, m1lt_nI, Nat.reduceEqDiff, Nat.reduceAdd, Nat.reduceMul, Nat.reduceSub, Nat.reduceLT, Nat.reduceLeDiff, reduceIte, if_true, if_false, Bool.false_eq_true, Nat.add_zero, Nat.zero_add, ne_eq, not_false_eq_true, not_true_eq_false, Nat.not_lt_zero, Nat.add_left_cancel_iff, Nat.add_right_cancel_iff, eq_self, upd_s, pk_sub, nI_pm, Nat.add_sub_cancel, List.length_cons, List.length_nil, Nat.add_eq_zero_iff, Nat.succ_ne_zero, and_false, false_and, l14, l18, l21, l23, l24, l26, l28, l29, l34, l35, l36, l41, l42, l43, l45, l47, l48, l49, l50, l51, l52, l57, l58, l59, l62, l63, l64, l96, l97, l98, l101, l102, l103, l104, l105, l106, l107, l108, l109, l110, l111, l112, l113, l114, l115, l116, l117, l118, l119, l121, l122, l127, l255, l700, l1320, l1000000, e1, e2, e3, myR_iff.mpr ⟨e1, e2, e3⟩, Bool.toNat_true]
      · simp (disch := omega) only [xB_s, xB2_s, xGet_s, xPut_s, xAld_s, xAst_s, xIf_t, xBool_s, l0, l1, l2, l3, l4, l5, l6, l7, l8, l9, l10, l11, l12, l13, l15, l16, l17, l19, l20, l25, l27, l30, l31, l32, l33, l39, l40, l60, l61, l99, l100, l120, l256, l999, l1999, l99999, lm, nI_add, pk_mul, nI_leI, nI_ltI, nI_eq, wuS_1, wuS_2, wuA_1, wuA_21, wuA_22, nI_m1, m1_nI, nIlt_m1, m1lt_nI, Nat.reduceEqDiff, Nat.reduceAdd, Nat.reduceMul, Nat.reduceSub, Nat.reduceLT, Nat.reduceLeDiff, reduceIte, if_true, if_false, Bool.false_eq_true, Nat.add_zero, Nat.zero_add, ne_eq, not_false_eq_true, not_true_eq_false, Nat.not_lt_zero, Nat.add_left_cancel_iff, Nat.add_right_cancel_iff, eq_self, upd_s, pk_sub, nI_pm, Nat.add_sub_cancel, List.length_cons, List.length_nil, Nat.add_eq_zero_iff, Nat.succ_ne_zero, and_false, false_and, l14, l18, l21, l23, l24, l26, l28, l29, l34, l35, l36, l41, l42, l43, l45, l47, l48, l49, l50, l51, l52, l57, l58, l59, l62, l63, l64, l96, l97, l98, l101, l102, l103, l104, l105, l106, l107, l108, l109, l110, l111, l112, l113, l114, l115, l116, l117, l118, l119, l121, l122, l127, l255, l700, l1320, l1000000, e1, e2, e3, myR_f (fun z => e3 z.2.2), Bool.toNat_false]
    · simp (disch := omega) only [xB_s, xB2_s, xGet_s, xPut_s, xAld_s, xAst_s, xIf_t, xBool_s, l0, l1, l2, l3, l4, l5, l6, l7, l8, l9, l10, l11, l12, l13, l15, l16, l17, l19, l20, l25, l27, l30, l31, l32, l33, l39, l40, l60, l61, l99, l100, l120, l256, l999, l1999, l99999, lm, nI_add, pk_mul, nI_leI, nI_ltI, nI_eq, wuS_1, wuS_2, wuA_1, wuA_21, wuA_22, nI_m1, m1_nI, nIlt_m1, m1lt_nI, Nat.reduceEqDiff, Nat.reduceAdd, Nat.reduceMul, Nat.reduceSub, Nat.reduceLT, Nat.reduceLeDiff, reduceIte, if_true, if_false, Bool.false_eq_true, Nat.add_zero, Nat.zero_add, ne_eq, not_false_eq_true, not_true_eq_false, Nat.not_lt_zero, Nat.add_left_cancel_iff, Nat.add_right_cancel_iff, eq_self, upd_s, pk_sub, nI_pm, Nat.add_sub_cancel, List.length_cons, List.length_nil, Nat.add_eq_zero_iff, Nat.succ_ne_zero, and_false, false_and, l14, l18, l21, l23, l24, l26, l28, l29, l34, l35, l36, l41, l42, l43, l45, l47, l48, l49, l50, l51, l52, l57, l58, l59, l62, l63, l64, l96, l97, l98, l101, l102, l103, l104, l105, l106, l107, l108, l109, l110, l111, l112, l113, l114, l115, l116, l117, l118, l119, l121, l122, l127, l255, l700, l1320, l1000000, e1, e2, myR_f (fun z => e2 z.2.1), Bool.toNat_false]
  · simp (disch := omega) only [xB_s, xB2_s, xGet_s, xPut_s, xAld_s, xAst_s, xIf_t, xBool_s, l0, l1, l2, l3, l4, l5, l6, l7, l8, l9, l10, l11, l12, l13, l15, l16, l17, l19, l20, l25, l27, l30, l31, l32, l33, l39, l40, l60, l61, l99, l100, l120, l256, l999, l1999, l99999, lm, nI_add, pk_mul, nI_leI, nI_ltI, nI_eq, wuS_1, wuS_2, wuA_1, wuA_21, wuA_22, nI_m1, m1_nI, nIlt_m1, m1lt_nI, Nat.reduceEqDiff, Nat.reduceAdd, Nat.reduceMul, Nat.reduceSub, Nat.reduceLT, Nat.reduceLeDiff, reduceIte, if_true, if_false, Bool.false_eq_true, Nat.add_zero, Nat.zero_add, ne_eq, not_false_eq_true, not_true_eq_false, Nat.not_lt_zero, Nat.add_left_cancel_iff, Nat.add_right_cancel_iff, eq_self, upd_s, pk_sub, nI_pm, Nat.add_sub_cancel, List.length_cons, List.length_nil, Nat.add_eq_zero_iff, Nat.succ_ne_zero, and_false, false_and, l14, l18, l21, l23, l24, l26, l28, l29, l34, l35, l36, l41, l42, l43, l45, l47, l48, l49, l50, l51, l52, l57, l58, l59, l62, l63, l64, l96, l97, l98, l101, l102, l103, l104, l105, l106, l107, l108, l109, l110, l111, l112, l113, l114, l115, l116, l117, l118, l119, l121, l122, l127, l255, l700, l1320, l1000000, e1, myR_f (fun z => e1 z.1), Bool.toNat_false]
theorem m_canDo {t : Tn} {y : Yw} {w : wS} {p T : Nat} (TT : TM t w) (ho : tOk t) (Y : YM y (w.2.1 16) 0) (hp : p < tP t) : L_X10_canDo (nI p) (nI T) w = some (nI (myR t y T p).toNat, w) := by
  have b1 := ho.1
  have c1 := bN_le (nI T) p
  have c2 := bN_le (yI y) p
  have c3 := m_doesCount TT ho hp
  unfold L_X10_canDo J_X10_canDo_33 J_X10_canDo_34
  simp (disch := omega) only [xB_s, xB2_s, xGet_s, xPut_s, xAld_s, xAst_s, xIf_t, xBool_s, l0, l1, l2, l3, l4, l5, l6, l7, l8, l9, l10, l11, l12, l13, l15, l16, l17, l19, l20, l25, l27, l30, l31, l32, l33, l39, l40, l60, l61, l99, l100, l120, l256, l999, l1999, l99999, lm, nI_add, pk_mul, nI_leI, nI_ltI, nI_eq, wuS_1, wuS_2, wuA_1, wuA_21, wuA_22, nI_m1, m1_nI, nIlt_m1, m1lt_nI, Nat.reduceEqDiff, Nat.reduceAdd, Nat.reduceMul, Nat.reduceSub, Nat.reduceLT, Nat.reduceLeDiff, reduceIte, if_true, if_false, Bool.false_eq_true, Nat.add_zero, Nat.zero_add, ne_eq, not_false_eq_true, not_true_eq_false, Nat.not_lt_zero, Nat.add_left_cancel_iff, Nat.add_right_cancel_iff, eq_self, upd_s, pk_sub, nI_pm, Nat.add_sub_cancel, List.length_cons, List.length_nil, Nat.add_eq_zero_iff, Nat.succ_ne_zero, and_false, false_and, l14, l18, l21, l23, l24, l26, l28, l29, l34, l35, l36, l41, l42, l43, l45, l47, l48, l49, l50, l51, l52, l57, l58, l59, l62, l63, l64, l96, l97, l98, l101, l102, l103, l104, l105, l106, l107, l108, l109, l110, l111, l112, l113, l114, l115, l116, l117, l118, l119, l121, l122, l127, l255, l700, l1320, l1000000, bit_s, c3, Y.at0.2.2.1]
  by_cases e2 : tK t p = 0
  · rw [decide_eq_true e2]
    by_cases e3 : bN (yI y) p = 0
    · by_cases e1 : bN (nI T) p = 0
      · simp (disch := omega) only [xB_s, xB2_s, xGet_s, xPut_s, xAld_s, xAst_s, xIf_t, xBool_s, l0, l1, l2, l3, l4, l5, l6, l7, l8, l9, l10, l11, l12, l13, l15, l16, l17, l19, l20, l25, l27, l30, l31, l32, l33, l39, l40, l60, l61, l99, l100, l120, l256, l999, l1999, l99999, lm, nI_add, pk_mul, nI_leI, nI_ltI, nI_eq, wuS_1, wuS_2, wuA_1, wuA_21, wuA_22, nI_m1, m1_nI, nIlt_m1, m1lt_nI, Nat.reduceEqDiff, Nat.reduceAdd, Nat.reduceMul, Nat.reduceSub, Nat.reduceLT, Nat.reduceLeDiff, reduceIte, if_true, if_false, Bool.false_eq_true, Nat.add_zero, Nat.zero_add, ne_eq, not_false_eq_true, not_true_eq_false, Nat.not_lt_zero, Nat.add_left_cancel_iff, Nat.add_right_cancel_iff, eq_self, upd_s, pk_sub, nI_pm, Nat.add_sub_cancel, List.length_cons, List.length_nil, Nat.add_eq_zero_iff, Nat.succ_ne_zero, and_false, false_and, l14, l18, l21, l23, l24, l26, l28, l29, l34, l35, l36, l41, l42, l43, l45, l47, l48, l49, l50, l51, l52, l57, l58, l59, l62, l63, l64, l96, l97, l98, l101, l102, l103, l104, l105, l106, l107, l108, l109, l110, l111, l112, l113, l114, l115, l116, l117, l118, l119, l121, l122, l127, l255, l700, l1320, l1000000, e1, e3, myR_iff.mpr ⟨e1, e2, e3⟩, Bool.toNat_true]
      · simp (disch := omega) only [xB_s, xB2_s, xGet_s, xPut_s, xAld_s, xAst_s, xIf_t, xBool_s, l0, l1, l2, l3, l4, l5, l6, l7, l8, l9, l10, l11, l12, l13, l15, l16, l17, l19, l20, l25, l27, l30, l31, l32, l33, l39, l40, l60, l61, l99, l100, l120, l256, l999, l1999, l99999, lm, nI_add, pk_mul, nI_leI, nI_ltI, nI_eq, wuS_1, wuS_2, wuA_1, wuA_21, wuA_22, nI_m1, m1_nI, nIlt_m1, m1lt_nI, Nat.reduceEqDiff, Nat.reduceAdd, Nat.reduceMul, Nat.reduceSub, Nat.reduceLT, Nat.reduceLeDiff, reduceIte, if_true, if_false, Bool.false_eq_true, Nat.add_zero, Nat.zero_add, ne_eq, not_false_eq_true, not_true_eq_false, Nat.not_lt_zero, Nat.add_left_cancel_iff, Nat.add_right_cancel_iff, eq_self, upd_s, pk_sub, nI_pm, Nat.add_sub_cancel, List.length_cons, List.length_nil, Nat.add_eq_zero_iff, Nat.succ_ne_zero, and_false, false_and, l14, l18, l21, l23, l24, l26, l28, l29, l34, l35, l36, l41, l42, l43, l45, l47, l48, l49, l50, l51, l52, l57, l58, l59, l62, l63, l64, l96, l97, l98, l101, l102, l103, l104, l105, l106, l107, l108, l109, l110, l111, l112, l113, l114, l115, l116, l117, l118, l119, l121, l122, l127, l255, l700, l1320, l1000000, e1, e3, myR_f (fun z => e1 z.1), Bool.toNat_false, Bool.toNat_true]
    · simp (disch := omega) only [xB_s, xB2_s, xGet_s, xPut_s, xAld_s, xAst_s, xIf_t, xBool_s, l0, l1, l2, l3, l4, l5, l6, l7, l8, l9, l10, l11, l12, l13, l15, l16, l17, l19, l20, l25, l27, l30, l31, l32, l33, l39, l40, l60, l61, l99, l100, l120, l256, l999, l1999, l99999, lm, nI_add, pk_mul, nI_leI, nI_ltI, nI_eq, wuS_1, wuS_2, wuA_1, wuA_21, wuA_22, nI_m1, m1_nI, nIlt_m1, m1lt_nI, Nat.reduceEqDiff, Nat.reduceAdd, Nat.reduceMul, Nat.reduceSub, Nat.reduceLT, Nat.reduceLeDiff, reduceIte, if_true, if_false, Bool.false_eq_true, Nat.add_zero, Nat.zero_add, ne_eq, not_false_eq_true, not_true_eq_false, Nat.not_lt_zero, Nat.add_left_cancel_iff, Nat.add_right_cancel_iff, eq_self, upd_s, pk_sub, nI_pm, Nat.add_sub_cancel, List.length_cons, List.length_nil, Nat.add_eq_zero_iff, Nat.succ_ne_zero, and_false, false_and, l14, l18, l21, l23, l24, l26, l28, l29, l34, l35, l36, l41, l42, l43, l45, l47, l48, l49, l50, l51, l52, l57, l58, l59, l62, l63, l64, l96, l97, l98, l101, l102, l103, l104, l105, l106, l107, l108, l109, l110, l111, l112, l113, l114, l115, l116, l117, l118, l119, l121, l122, l127, l255, l700, l1320, l1000000, e3, myR_f (fun z => e3 z.2.2), Bool.toNat_false, Bool.toNat_true]
  · rw [decide_eq_false e2]
    simp (disch := omega) only [xB_s, xB2_s, xGet_s, xPut_s, xAld_s, xAst_s, xIf_t, xBool_s, l0, l1, l2, l3, l4, l5, l6, l7, l8, l9, l10, l11, l12, l13, l15, l16, l17, l19, l20, l25, l27, l30, l31, l32, l33, l39, l40, l60, l61, l99, l100, l120, l256, l999, l1999, l99999, lm, nI_add, pk_mul, nI_leI, nI_ltI, nI_eq, wuS_1, wuS_2, wuA_1, wuA_21, wuA_22, nI_m1, m1_nI, nIlt_m1, m1lt_nI, Nat.reduceEqDiff, Nat.reduceAdd, Nat.reduceMul, Nat.reduceSub, Nat.reduceLT, Nat.reduceLeDiff, reduceIte, if_true, if_false, Bool.false_eq_true, Nat.add_zero, Nat.zero_add, ne_eq, not_false_eq_true, not_true_eq_false, Nat.not_lt_zero, Nat.add_left_cancel_iff, Nat.add_right_cancel_iff, eq_self, upd_s, pk_sub, nI_pm, Nat.add_sub_cancel, List.length_cons, List.length_nil, Nat.add_eq_zero_iff, Nat.succ_ne_zero, and_false, false_and, l14, l18, l21, l23, l24, l26, l28, l29, l34, l35, l36, l41, l42, l43, l45, l47, l48, l49, l50, l51, l52, l57, l58, l59, l62, l63, l64, l96, l97, l98, l101, l102, l103, l104, l105, l106, l107, l108, l109, l110, l111, l112, l113, l114, l115, l116, l117, l118, l119, l121, l122, l127, l255, l700, l1320, l1000000, myR_f (fun z => e2 z.2.1), Bool.toNat_false]
abbrev rX (t : Tn) (y : Yw) (k T : Nat) : Nat := vR (tP t) (tD t) (myR t y) (way t y) 1000000 k T
abbrev rM (t : Tn) (y : Yw) (k T : Nat) : Nat := vR (tP t) (tD t) (myR t y) (way t y) 99999 k T
def xLs (t : Tn) (y : Yw) (A : Nat → Int32) (T0 : Nat) : Prop := ∀ T, T0 ≤ T → T < 2 ^ tP t → A T = nI (rX t y (tD t - p8 T) T)
theorem XT.a {t : Tn} {o : wO} {w w' : wS} (h : XT t o w) (f : Fr [] [50] w w') : XT t o w' := h.q (QX.fr (f.mono (by simp) (by decide)))
theorem x_fillL {t : Tn} {y : Yw} {o : wO} {w : wS} (hT : XT t o w) (ho : tOk t) (hy : yOk t y) (hY : XY y (w.2.1 14)) : wpO (L_X9_fillLeastWays o w) (fun w' => Fr [] [50] w w' ∧ xLs t y (w'.2.1 50) 0) := by
  have b1 := ho.1
  have b2 := ho.2.1
  have hP := tk_P b1
  have hP1 : 1 ≤ 2 ^ tP t := Nat.one_le_two_pow
  have r9 := xRef_t hT.2.1
  unfold L_X9_fillLeastWays
  simp (disch := omega) only [xB_s, xB2_s, xGet_s, xPut_s, xAld_s, xAst_s, xIf_t, xBool_s, l0, l1, l2, l3, l4, l5, l6, l7, l8, l9, l10, l11, l12, l13, l15, l16, l17, l19, l20, l25, l27, l30, l31, l32, l33, l39, l40, l60, l61, l99, l100, l120, l256, l999, l1999, l99999, lm, nI_add, pk_mul, nI_leI, nI_ltI, nI_eq, wuS_1, wuS_2, wuA_1, wuA_21, wuA_22, nI_m1, m1_nI, nIlt_m1, m1lt_nI, Nat.reduceEqDiff, Nat.reduceAdd, Nat.reduceMul, Nat.reduceSub, Nat.reduceLT, Nat.reduceLeDiff, reduceIte, if_true, if_false, Bool.false_eq_true, Nat.add_zero, Nat.zero_add, ne_eq, not_false_eq_true, not_true_eq_false, Nat.not_lt_zero, Nat.add_left_cancel_iff, Nat.add_right_cancel_iff, eq_self, upd_s, pk_sub, nI_pm, Nat.add_sub_cancel, List.length_cons, List.length_nil, Nat.add_eq_zero_iff, Nat.succ_ne_zero, and_false, false_and, l14, l18, l21, l23, l24, l26, l28, l29, l34, l35, l36, l41, l42, l43, l45, l47, l48, l49, l50, l51, l52, l57, l58, l59, l62, l63, l64, l96, l97, l98, l101, l102, l103, l104, l105, l106, l107, l108, l109, l110, l111, l112, l113, l114, l115, l116, l117, l118, l119, l121, l122, l127, l255, l700, l1320, l1000000, r9, hT.1.1, tk_shl (tP t) (by omega)]
  unfold P_X9_fillLeastWays_12
  refine wp_for (2 ^ tP t) (fun i s => ∃ w' : wS, Fr [] [50] w w' ∧ xLs t y (w'.2.1 50) (2 ^ tP t - i) ∧ ((i < 2 ^ tP t ∧ s = (nI (2 ^ tP t - 1 - i), w')) ∨ (i = 2 ^ tP t ∧ s = (mI, w')))) ?_ (i := 0) (by omega) (by omega) ⟨w, Fr.refl, fun T h1 h2 => by omega, Or.inl ⟨by omega, rfl⟩⟩
  rintro i _ kk hi ⟨w', F, hL, hs⟩ hkk
  rcases hs with ⟨hlt, rfl⟩ | ⟨hlt, rfl⟩
  · obtain ⟨T, hTe⟩ : ∃ T, T = 2 ^ tP t - 1 - i := ⟨_, rfl⟩
    rw [← hTe]
    show wpO (B_X9_fillLeastWays_12 o (fun x1 w => kk (x1, w)) _ (nI T) w') _
    unfold B_X9_fillLeastWays_12
    have hT' := hT.a F
    have r9' := xRef_t hT'.2.1
    have hY' : XY y (w'.2.1 14) := by rw [F.2.1 14 (by decide)]; exact hY
    have hp8 := p8_le T
    have nxt : ∀ v, v = rX t y (tD t - p8 T) T → wpO (J_X9_fillLeastWays_106 o (fun x1 w => kk (x1, w)) (fun w20 => some w20) (nI T) (nI v) w') (fun w' => Fr [] [50] w w' ∧ xLs t y (w'.2.1 50) 0) := by
      rintro v rfl
      unfold J_X9_fillLeastWays_106
      simp (disch := omega) only [xB_s, xB2_s, xGet_s, xPut_s, xAld_s, xAst_s, xIf_t, xBool_s, l0, l1, l2, l3, l4, l5, l6, l7, l8, l9, l10, l11, l12, l13, l15, l16, l17, l19, l20, l25, l27, l30, l31, l32, l33, l39, l40, l60, l61, l99, l100, l120, l256, l999, l1999, l99999, lm, nI_add, pk_mul, nI_leI, nI_ltI, nI_eq, wuS_1, wuS_2, wuA_1, wuA_21, wuA_22, nI_m1, m1_nI, nIlt_m1, m1lt_nI, Nat.reduceEqDiff, Nat.reduceAdd, Nat.reduceMul, Nat.reduceSub, Nat.reduceLT, Nat.reduceLeDiff, reduceIte, if_true, if_false, Bool.false_eq_true, Nat.add_zero, Nat.zero_add, ne_eq, not_false_eq_true, not_true_eq_false, Nat.not_lt_zero, Nat.add_left_cancel_iff, Nat.add_right_cancel_iff, eq_self, upd_s, pk_sub, nI_pm, Nat.add_sub_cancel, List.length_cons, List.length_nil, Nat.add_eq_zero_iff, Nat.succ_ne_zero, and_false, false_and, l14, l18, l21, l23, l24, l26, l28, l29, l34, l35, l36, l41, l42, l43, l45, l47, l48, l49, l50, l51, l52, l57, l58, l59, l62, l63, l64, l96, l97, l98, l101, l102, l103, l104, l105, l106, l107, l108, l109, l110, l111, l112, l113, l114, l115, l116, l117, l118, l119, l121, l122, l127, l255, l700, l1320, l1000000]
      refine hkk hlt _ ⟨wuA w' 50 (upd (w'.2.1 50) T (nI (rX t y (tD t - p8 T) T))), F.A (by decide), fun T2 h1 h2 => ?_, ?_⟩
      · rw [wuA_21, if_pos rfl, upd_s]
        by_cases e : T2 = T
        · rw [if_pos e, e]
        · rw [if_neg e]; exact hL T2 (by omega) h2
      · by_cases e : i + 1 < 2 ^ tP t
        · refine Or.inl ⟨e, ?_⟩
          rw [nI_pm (by omega), show T - 1 = 2 ^ tP t - 1 - (i + 1) by omega]
        · refine Or.inr ⟨by omega, ?_⟩
          rw [show T = 0 by omega]
          rfl
    simp (disch := omega) only [xB_s, xB2_s, xGet_s, xPut_s, xAld_s, xAst_s, xIf_t, xBool_s, l0, l1, l2, l3, l4, l5, l6, l7, l8, l9, l10, l11, l12, l13, l15, l16, l17, l19, l20, l25, l27, l30, l31, l32, l33, l39, l40, l60, l61, l99, l100, l120, l256, l999, l1999, l99999, lm, nI_add, pk_mul, nI_leI, nI_ltI, nI_eq, wuS_1, wuS_2, wuA_1, wuA_21, wuA_22, nI_m1, m1_nI, nIlt_m1, m1lt_nI, Nat.reduceEqDiff, Nat.reduceAdd, Nat.reduceMul, Nat.reduceSub, Nat.reduceLT, Nat.reduceLeDiff, reduceIte, if_true, if_false, Bool.false_eq_true, Nat.add_zero, Nat.zero_add, ne_eq, not_false_eq_true, not_true_eq_false, Nat.not_lt_zero, Nat.add_left_cancel_iff, Nat.add_right_cancel_iff, eq_self, upd_s, pk_sub, nI_pm, Nat.add_sub_cancel, List.length_cons, List.length_nil, Nat.add_eq_zero_iff, Nat.succ_ne_zero, and_false, false_and, l14, l18, l21, l23, l24, l26, l28, l29, l34, l35, l36, l41, l42, l43, l45, l47, l48, l49, l50, l51, l52, l57, l58, l59, l62, l63, l64, l96, l97, l98, l101, l102, l103, l104, l105, l106, l107, l108, l109, l110, l111, l112, l113, l114, l115, l116, l117, l118, l119, l121, l122, l127, l255, l700, l1320, l1000000, tk_bc T (by omega), r9', hT'.1.2.1]
    by_cases hd : p8 T < tD t
    · rw [if_pos hd]
      unfold J_X9_fillLeastWays_39 P_X9_fillLeastWays_43
      obtain ⟨k, hk⟩ : ∃ k, tD t - p8 T = k + 1 := ⟨tD t - p8 T - 1, by omega⟩
      have hk2 : tD t - (k + 1) = p8 T := by omega
      refine wp_for (tP t) (fun p s => s = (nI T, nI (p8 T), nI (vI (myR t y T) (fun p => way t y p (tD t - (k + 1)) + rX t y k (T ||| 2 ^ p)) 1000000 p), nI p, w')) ?_ (i := 0) (by omega) (by omega) rfl
      rintro p _ kk2 hp rfl hkk2
      show wpO (B_X9_fillLeastWays_43 o (fun x1 x2 x3 x4 w => kk2 (x1, x2, x3, x4, w)) _ (nI T) (nI (p8 T)) (nI _) (nI p) w') _
      unfold B_X9_fillLeastWays_43 J_X9_fillLeastWays_100
      by_cases hpl : p < tP t
      · have c1 := x_mayHave (T := T) hT' ho hY' hpl
        have c2 := x_wayNow hT' ho hy hY' hpl hd
        have hw := (way_le ho y p (p8 T)).1
        have hv := vI_le (may := myR t y T) (g := fun p => way t y p (tD t - (k + 1)) + rX t y k (T ||| 2 ^ p)) (F := 1000000) p
        simp (disch := omega) only [xB_s, xB2_s, xGet_s, xPut_s, xAld_s, xAst_s, xIf_t, xBool_s, l0, l1, l2, l3, l4, l5, l6, l7, l8, l9, l10, l11, l12, l13, l15, l16, l17, l19, l20, l25, l27, l30, l31, l32, l33, l39, l40, l60, l61, l99, l100, l120, l256, l999, l1999, l99999, lm, nI_add, pk_mul, nI_leI, nI_ltI, nI_eq, wuS_1, wuS_2, wuA_1, wuA_21, wuA_22, nI_m1, m1_nI, nIlt_m1, m1lt_nI, Nat.reduceEqDiff, Nat.reduceAdd, Nat.reduceMul, Nat.reduceSub, Nat.reduceLT, Nat.reduceLeDiff, reduceIte, if_true, if_false, Bool.false_eq_true, Nat.add_zero, Nat.zero_add, ne_eq, not_false_eq_true, not_true_eq_false, Nat.not_lt_zero, Nat.add_left_cancel_iff, Nat.add_right_cancel_iff, eq_self, upd_s, pk_sub, nI_pm, Nat.add_sub_cancel, List.length_cons, List.length_nil, Nat.add_eq_zero_iff, Nat.succ_ne_zero, and_false, false_and, l14, l18, l21, l23, l24, l26, l28, l29, l34, l35, l36, l41, l42, l43, l45, l47, l48, l49, l50, l51, l52, l57, l58, l59, l62, l63, l64, l96, l97, l98, l101, l102, l103, l104, l105, l106, l107, l108, l109, l110, l111, l112, l113, l114, l115, l116, l117, l118, l119, l121, l122, l127, l255, l700, l1320, l1000000, r9', hT'.1.1, hT'.1.2.1, show (tP t ≤ p) = False from eq_false (by omega), show (tD t ≤ p8 T) = False from eq_false (by omega), c1]
        cases hm : myR t y T p with
        | false =>
          simp (disch := omega) only [xB_s, xB2_s, xGet_s, xPut_s, xAld_s, xAst_s, xIf_t, xBool_s, l0, l1, l2, l3, l4, l5, l6, l7, l8, l9, l10, l11, l12, l13, l15, l16, l17, l19, l20, l25, l27, l30, l31, l32, l33, l39, l40, l60, l61, l99, l100, l120, l256, l999, l1999, l99999, lm, nI_add, pk_mul, nI_leI, nI_ltI, nI_eq, wuS_1, wuS_2, wuA_1, wuA_21, wuA_22, nI_m1, m1_nI, nIlt_m1, m1lt_nI, Nat.reduceEqDiff, Nat.reduceAdd, Nat.reduceMul, Nat.reduceSub, Nat.reduceLT, Nat.reduceLeDiff, reduceIte, if_true, if_false, Bool.false_eq_true, Nat.add_zero, Nat.zero_add, ne_eq, not_false_eq_true, not_true_eq_false, Nat.not_lt_zero, Nat.add_left_cancel_iff, Nat.add_right_cancel_iff, eq_self, upd_s, pk_sub, nI_pm, Nat.add_sub_cancel, List.length_cons, List.length_nil, Nat.add_eq_zero_iff, Nat.succ_ne_zero, and_false, false_and, l14, l18, l21, l23, l24, l26, l28, l29, l34, l35, l36, l41, l42, l43, l45, l47, l48, l49, l50, l51, l52, l57, l58, l59, l62, l63, l64, l96, l97, l98, l101, l102, l103, l104, l105, l106, l107, l108, l109, l110, l111, l112, l113, l114, l115, l116, l117, l118, l119, l121, l122, l127, l255, l700, l1320, l1000000, Bool.toNat_false]
          exact hkk2 hpl _ (by rw [vI_n hm])
        | true =>
          obtain ⟨g1, g2⟩ := tk_set T (by omega) p (by omega) (myR_iff.mp hm).1
          have g3 := tk_lt (tP t) (by omega) T (by omega) p hpl
          have g4 := hL (T ||| 2 ^ p) (by omega) g3
          rw [g1, show tD t - (p8 T + 1) = k by omega] at g4
          have g5 : rX t y k (T ||| 2 ^ p) ≤ 1000000 := vR_le _ _
          have em := xMin_n (a := vI (myR t y T) (fun p => way t y p (tD t - (k + 1)) + rX t y k (T ||| 2 ^ p)) 1000000 p) (b := way t y p (p8 T) + rX t y k (T ||| 2 ^ p)) (by omega) (by omega)
          simp (disch := omega) only [xB_s, xB2_s, xGet_s, xPut_s, xAld_s, xAst_s, xIf_t, xBool_s, l0, l1, l2, l3, l4, l5, l6, l7, l8, l9, l10, l11, l12, l13, l15, l16, l17, l19, l20, l25, l27, l30, l31, l32, l33, l39, l40, l60, l61, l99, l100, l120, l256, l999, l1999, l99999, lm, nI_add, pk_mul, nI_leI, nI_ltI, nI_eq, wuS_1, wuS_2, wuA_1, wuA_21, wuA_22, nI_m1, m1_nI, nIlt_m1, m1lt_nI, Nat.reduceEqDiff, Nat.reduceAdd, Nat.reduceMul, Nat.reduceSub, Nat.reduceLT, Nat.reduceLeDiff, reduceIte, if_true, if_false, Bool.false_eq_true, Nat.add_zero, Nat.zero_add, ne_eq, not_false_eq_true, not_true_eq_false, Nat.not_lt_zero, Nat.add_left_cancel_iff, Nat.add_right_cancel_iff, eq_self, upd_s, pk_sub, nI_pm, Nat.add_sub_cancel, List.length_cons, List.length_nil, Nat.add_eq_zero_iff, Nat.succ_ne_zero, and_false, false_and, l14, l18, l21, l23, l24, l26, l28, l29, l34, l35, l36, l41, l42, l43, l45, l47, l48, l49, l50, l51, l52, l57, l58, l59, l62, l63, l64, l96, l97, l98, l101, l102, l103, l104, l105, l106, l107, l108, l109, l110, l111, l112, l113, l114, l115, l116, l117, l118, l119, l121, l122, l127, l255, l700, l1320, l1000000, Bool.toNat_true, c2, tk_or T (show T < 256 by omega) p (show p < 8 by omega), g4]
          rw [em]
          exact hkk2 hpl _ (by rw [vI_y hm, hk2])
      · obtain rfl : p = tP t := by omega
        simp (disch := omega) only [xB_s, xB2_s, xGet_s, xPut_s, xAld_s, xAst_s, xIf_t, xBool_s, l0, l1, l2, l3, l4, l5, l6, l7, l8, l9, l10, l11, l12, l13, l15, l16, l17, l19, l20, l25, l27, l30, l31, l32, l33, l39, l40, l60, l61, l99, l100, l120, l256, l999, l1999, l99999, lm, nI_add, pk_mul, nI_leI, nI_ltI, nI_eq, wuS_1, wuS_2, wuA_1, wuA_21, wuA_22, nI_m1, m1_nI, nIlt_m1, m1lt_nI, Nat.reduceEqDiff, Nat.reduceAdd, Nat.reduceMul, Nat.reduceSub, Nat.reduceLT, Nat.reduceLeDiff, reduceIte, if_true, if_false, Bool.false_eq_true, Nat.add_zero, Nat.zero_add, ne_eq, not_false_eq_true, not_true_eq_false, Nat.not_lt_zero, Nat.add_left_cancel_iff, Nat.add_right_cancel_iff, eq_self, upd_s, pk_sub, nI_pm, Nat.add_sub_cancel, List.length_cons, List.length_nil, Nat.add_eq_zero_iff, Nat.succ_ne_zero, and_false, false_and, l14, l18, l21, l23, l24, l26, l28, l29, l34, l35, l36, l41, l42, l43, l45, l47, l48, l49, l50, l51, l52, l57, l58, l59, l62, l63, l64, l96, l97, l98, l101, l102, l103, l104, l105, l106, l107, l108, l109, l110, l111, l112, l113, l114, l115, l116, l117, l118, l119, l121, l122, l127, l255, l700, l1320, l1000000, r9', hT'.1.1, Nat.le_refl]
        exact nxt _ (by rw [hk]; rfl)
    · rw [if_neg hd]
      unfold J_X9_fillLeastWays_39 P_X9_fillLeastWays_43
      refine wp_for 0 (fun p s => s = (nI T, nI (p8 T), nI 0, nI 0, w')) ?_ (i := 0) (by omega) (by omega) rfl
      rintro p _ kk2 hp rfl _
      show wpO (B_X9_fillLeastWays_43 o (fun x1 x2 x3 x4 w => kk2 (x1, x2, x3, x4, w)) _ (nI T) (nI (p8 T)) (nI 0) (nI 0) w') _
      unfold B_X9_fillLeastWays_43
      simp (disch := omega) only [xB_s, xB2_s, xGet_s, xPut_s, xAld_s, xAst_s, xIf_t, xBool_s, l0, l1, l2, l3, l4, l5, l6, l7, l8, l9, l10, l11, l12, l13, l15, l16, l17, l19, l20, l25, l27, l30, l31, l32, l33, l39, l40, l60, l61, l99, l100, l120, l256, l999, l1999, l99999, lm, nI_add, pk_mul, nI_leI, nI_ltI, nI_eq, wuS_1, wuS_2, wuA_1, wuA_21, wuA_22, nI_m1, m1_nI, nIlt_m1, m1lt_nI, Nat.reduceEqDiff, Nat.reduceAdd, Nat.reduceMul, Nat.reduceSub, Nat.reduceLT, Nat.reduceLeDiff, reduceIte, if_true, if_false, Bool.false_eq_true, Nat.add_zero, Nat.zero_add, ne_eq, not_false_eq_true, not_true_eq_false, Nat.not_lt_zero, Nat.add_left_cancel_iff, Nat.add_right_cancel_iff, eq_self, upd_s, pk_sub, nI_pm, Nat.add_sub_cancel, List.length_cons, List.length_nil, Nat.add_eq_zero_iff, Nat.succ_ne_zero, and_false, false_and, l14, l18, l21, l23, l24, l26, l28, l29, l34, l35, l36, l41, l42, l43, l45, l47, l48, l49, l50, l51, l52, l57, l58, l59, l62, l63, l64, l96, l97, l98, l101, l102, l103, l104, l105, l106, l107, l108, l109, l110, l111, l112, l113, l114, l115, l116, l117, l118, l119, l121, l122, l127, l255, l700, l1320, l1000000, r9', hT'.1.1, hT'.1.2.1, show (tD t ≤ p8 T) = True from eq_true (by omega)]
      have := nxt 0 (by rw [show tD t - p8 T = 0 by omega]; rfl)
      split <;> exact this
  · subst hlt
    show wpO (B_X9_fillLeastWays_12 o (fun x1 w => kk (x1, w)) _ mI w') _
    unfold B_X9_fillLeastWays_12
    simp (disch := omega) only [xB_s, xB2_s, xGet_s, xPut_s, xAld_s, xAst_s, xIf_t, xBool_s, l0, l1, l2, l3, l4, l5, l6, l7, l8, l9, l10, l11, l12, l13, l15, l16, l17, l19, l20, l25, l27, l30, l31, l32, l33, l39, l40, l60, l61, l99, l100, l120, l256, l999, l1999, l99999, lm, nI_add, pk_mul, nI_leI, nI_ltI, nI_eq, wuS_1, wuS_2, wuA_1, wuA_21, wuA_22, nI_m1, m1_nI, nIlt_m1, m1lt_nI, Nat.reduceEqDiff, Nat.reduceAdd, Nat.reduceMul, Nat.reduceSub, Nat.reduceLT, Nat.reduceLeDiff, reduceIte, if_true, if_false, Bool.false_eq_true, Nat.add_zero, Nat.zero_add, ne_eq, not_false_eq_true, not_true_eq_false, Nat.not_lt_zero, Nat.add_left_cancel_iff, Nat.add_right_cancel_iff, eq_self, upd_s, pk_sub, nI_pm, Nat.add_sub_cancel, List.length_cons, List.length_nil, Nat.add_eq_zero_iff, Nat.succ_ne_zero, and_false, false_and, l14, l18, l21, l23, l24, l26, l28, l29, l34, l35, l36, l41, l42, l43, l45, l47, l48, l49, l50, l51, l52, l57, l58, l59, l62, l63, l64, l96, l97, l98, l101, l102, l103, l104, l105, l106, l107, l108, l109, l110, l111, l112, l113, l114, l115, l116, l117, l118, l119, l121, l122, l127, l255, l700, l1320, l1000000, show (mI < nI 0) = True from eq_true (by decide)]
    rw [Nat.sub_self] at hL
    exact wp_some ⟨F, hL⟩
end
