section
/-! ===== tokens ===== -/
def ltB (b : Nat) : Bool := decide (97 ≤ b) && decide (b ≤ 122)
def dgB (b : Nat) : Bool := decide (48 ≤ b) && decide (b ≤ 57)
def blB (b : Nat) : Bool := decide (b = 32) || decide (b = 10)
def sgnB (b : Nat) : Bool := decide (b = 59) || decide (b = 40) || decide (b = 41) || decide (b = 43) || decide (b = 45) || decide (b = 42) || decide (b = 47) || decide (b = 60) || decide (b = 61)
def skA (b : Nat → Nat) : Nat → Nat → Nat
  | 0, q => q
  | k + 1, q => if blB (b q) = true then skA b k (q + 1) else q
def sk (b : Nat → Nat) (n q : Nat) : Nat := skA b (n - q) q
def rnA (P : Nat → Bool) (b : Nat → Nat) : Nat → Nat → Nat
  | 0, _ => 0
  | k + 1, q => if P (b q) = true then rnA P b k (q + 1) + 1 else 0
def rn (P : Nat → Bool) (b : Nat → Nat) (n q : Nat) : Nat := rnA P b (n - q) q
theorem sk_y {b : Nat → Nat} {n q : Nat} (h : q < n) (hb : blB (b q) = true) : sk b n q = sk b n (q + 1) := by
  unfold sk
  rw [show n - q = (n - (q + 1)) + 1 by omega]
  show (if _ then _ else _) = _
  rw [if_pos hb]
theorem sk_n {b : Nat → Nat} {n q : Nat} (h : n ≤ q ∨ blB (b q) = false) : sk b n q = q := by
  unfold sk
  rcases Nat.lt_or_ge q n with e | e
  · rw [show n - q = (n - (q + 1)) + 1 by omega]
    show (if _ then _ else _) = _
    rw [if_neg]
    rcases h with h | h
    · omega
    · rw [h]; exact Bool.noConfusion
  · rw [show n - q = 0 by omega]; rfl
theorem rn_y {P : Nat → Bool} {b : Nat → Nat} {n q : Nat} (h : q < n) (hb : P (b q) = true) : rn P b n q = rn P b n (q + 1) + 1 := by
  unfold rn
  rw [show n - q = (n - (q + 1)) + 1 by omega]
  show (if _ then _ else _) = _
  rw [if_pos hb]
theorem rn_n {P : Nat → Bool} {b : Nat → Nat} {n q : Nat} (h : n ≤ q ∨ P (b q) = false) : rn P b n q = 0 := by
  unfold rn
  rcases Nat.lt_or_ge q n with e | e
  · rw [show n - q = (n - (q + 1)) + 1 by omega]
    show (if _ then _ else _) = _
    rw [if_neg]
    rcases h with h | h
    · omega
    · rw [h]; exact Bool.noConfusion
  · rw [show n - q = 0 by omega]; rfl
theorem rnA_le {P : Nat → Bool} {b : Nat → Nat} : ∀ (k q : Nat), rnA P b k q ≤ k
  | 0, _ => Nat.le_refl _
  | k + 1, q => by
    have := rnA_le (P := P) (b := b) k (q + 1)
    show (if P (b q) = true then rnA P b k (q + 1) + 1 else 0) ≤ k + 1
    split <;> omega
theorem rn_le {P : Nat → Bool} {b : Nat → Nat} (n q : Nat) : rn P b n q ≤ n - q := rnA_le _ _
theorem skA_le {b : Nat → Nat} : ∀ (k q : Nat), q ≤ skA b k q ∧ skA b k q ≤ q + k
  | 0, q => ⟨Nat.le_refl _, Nat.le_refl _⟩
  | k + 1, q => by
    have := skA_le (b := b) k (q + 1)
    show q ≤ (if blB (b q) = true then skA b k (q + 1) else q) ∧ (if blB (b q) = true then skA b k (q + 1) else q) ≤ q + (k + 1)
    split <;> omega
theorem sk_le {b : Nat → Nat} {n q : Nat} (h : q ≤ n) : q ≤ sk b n q ∧ sk b n q ≤ n := by
  have := skA_le (b := b) (n - q) q
  unfold sk
  omega
/-- as the class has it: 0 the end, 1 unknown, 97 a word, 48 a number, else the sign -/
def kd (b : Nat → Nat) (n s : Nat) : Nat := if n ≤ s then 0 else if ltB (b s) = true then 97 else if dgB (b s) = true then 48 else if sgnB (b s) = true then b s else 1
/-- as the reference has it -/
def srT (b : Nat → Nat) (n s : Nat) : Nat := if n ≤ s then 0 else if ltB (b s) = true then 1 else if dgB (b s) = true then 2 else if sgnB (b s) = true then 3 else 4
def szT (b : Nat → Nat) (n s : Nat) : Nat := if n ≤ s then 0 else if ltB (b s) = true then rn ltB b n s else if dgB (b s) = true then rn dgB b n s else 1
theorem szT_le {b : Nat → Nat} {n s : Nat} (h : s ≤ n) : s + szT b n s ≤ n := by
  unfold szT
  have h1 := rn_le (P := ltB) (b := b) n s
  have h2 := rn_le (P := dgB) (b := b) n s
  split
  · omega
  · split
    · omega
    · split <;> omega
theorem szT_pos {b : Nat → Nat} {n s : Nat} (h : s < n) : 1 ≤ szT b n s := by
  unfold szT
  rw [if_neg (by omega)]
  by_cases h1 : ltB (b s) = true
  · rw [if_pos h1, rn_y h h1]; omega
  · rw [if_neg h1]
    by_cases h2 : dgB (b s) = true
    · rw [if_pos h2, rn_y h h2]; omega
    · rw [if_neg h2]; omega
/-- where the next token begins -/
def nxT (b : Nat → Nat) (n s : Nat) : Nat := sk b n (s + szT b n s)
theorem nxT_le {b : Nat → Nat} {n s : Nat} (h : s ≤ n) : s ≤ nxT b n s ∧ nxT b n s ≤ n := by
  have h1 := szT_le (b := b) h
  have h2 := sk_le (b := b) h1
  unfold nxT
  omega
theorem nxT_lt {b : Nat → Nat} {n s : Nat} (h : s < n) : s + 1 ≤ nxT b n s := by
  have h1 := szT_le (b := b) (Nat.le_of_lt h)
  have h2 := sk_le (b := b) h1
  have h3 := szT_pos (b := b) h
  unfold nxT
  omega
/-! a byte with its sign -/
theorem sg_c : ∀ b, b < 256 → ((sgB b < nI 97) ↔ (b < 97 ∨ 128 ≤ b)) ∧ ((nI 122 < sgB b) ↔ (122 < b ∧ b < 128)) ∧ ((sgB b < nI 48) ↔ (b < 48 ∨ 128 ≤ b)) ∧ ((nI 57 < sgB b) ↔ (57 < b ∧ b < 128)) ∧ (sgB b = nI 32 ↔ b = 32) ∧ (sgB b = nI 10 ↔ b = 10) := by decide +kernel
theorem sg_s : ∀ b, b < 256 → L_X7_isSign (sgB b) = some (nI (sgnB b).toNat) := by decide +kernel
theorem sg_e : ∀ b, b < 128 → sgB b = nI b := by decide +kernel
theorem sg_l : ∀ b, b < 256 → sgnB b = true → b < 128 ∧ ltB b = false ∧ dgB b = false := by decide +kernel
theorem is_l : ∀ b, b < 256 → L_X10_isLetter (nI b) = some (nI (ltB b).toNat) := by decide +kernel
theorem is_d : ∀ b, b < 256 → L_X10_isDigit (nI b) = some (nI (dgB b).toNat) := by decide +kernel
def XBy (b : Nat → Nat) (n : Nat) (w : wS) : Prop := n ≤ 700 ∧ w.1 205 = nI n ∧ ∀ i, i < n → b i < 256 ∧ w.2.1 3 i = sgB (b i)
def MBy (b : Nat → Nat) (n : Nat) (w : wS) : Prop := n ≤ 700 ∧ w.1 16 = nI n ∧ ∀ i, i < n → b i < 256 ∧ w.2.1 6 i = nI (b i)
def TX (b : Nat → Nat) (n s : Nat) (w : wS) : Prop := XBy b n w ∧ s ≤ n ∧ w.1 202 = nI (kd b n s) ∧ w.1 203 = nI s ∧ w.1 204 = nI (szT b n s)
theorem XBy.of {b : Nat → Nat} {n : Nat} {w w' : wS} (h : XBy b n w) (h1 : w'.1 205 = w.1 205) (h2 : w'.2.1 3 = w.2.1 3) : XBy b n w' := by
  unfold XBy; rw [h1, h2]; exact h
theorem TX.of {b : Nat → Nat} {n s : Nat} {w w' : wS} (h : TX b n s w) (h1 : ∀ k, 202 ≤ k → k ≤ 205 → w'.1 k = w.1 k) (h2 : w'.2.1 3 = w.2.1 3) : TX b n s w' := by
  unfold TX; rw [h1 202 (by omega) (by omega), h1 203 (by omega) (by omega), h1 204 (by omega) (by omega)]
  exact ⟨h.1.of (h1 205 (by omega) (by omega)) h2, h.2⟩
theorem x_row {b : Nat → Nat} {n s lo up : Nat} {P : Nat → Bool} {o : wO} {w : wS} (hB : XBy b n w) (hs : s ≤ n) (h3 : w.1 203 = nI s) (hP : ∀ c, c < 256 → (P c = true ↔ (¬ sgB c < nI lo ∧ ¬ nI up < sgB c))) : L_X7_row o (nI lo) (nI up) w = some (nI (rn P b n s), w) := by
  obtain ⟨b1, b2, b3⟩ := hB
  suffices h : wpO (L_X7_row o (nI lo) (nI up) w) (fun r => r = (nI (rn P b n s), w)) by
    obtain ⟨a, e, rfl⟩ := h; exact e
  unfold L_X7_row P_X7_row_5
  simp (disch := omega) only [xB_s, xB2_s, xGet_s, xPut_s, xAld_s, xAst_s, xIf_t, xBool_s, l0, l1, l2, l3, l4, l5, l6, l7, l8, l9, l10, l11, l12, l13, l15, l16, l17, l19, l20, l25, l27, l30, l31, l32, l33, l39, l40, l60, l61, l99, l100, l120, l256, l999, l1999, l99999, lm, nI_add, pk_mul, nI_leI, nI_ltI, nI_eq, wuS_1, wuS_2, wuA_1, wuA_21, wuA_22, nI_m1, m1_nI, nIlt_m1, m1lt_nI, Nat.reduceEqDiff, Nat.reduceAdd, Nat.reduceMul, Nat.reduceSub, Nat.reduceLT, Nat.reduceLeDiff, reduceIte, if_true, if_false, Bool.false_eq_true, Nat.add_zero, Nat.zero_add, ne_eq, not_false_eq_true, not_true_eq_false, Nat.not_lt_zero, Nat.add_left_cancel_iff, Nat.add_right_cancel_iff, eq_self, upd_s, pk_sub, nI_pm, Nat.add_sub_cancel, List.length_cons, List.length_nil, Nat.add_eq_zero_iff, Nat.succ_ne_zero, and_false, false_and, l14, l18, l21, l23, l24, l26, l28, l29, l34, l35, l36, l41, l42, l43, l45, l47, l48, l49, l50, l51, l52, l57, l58, l59, l62, l63, l64, l96, l97, l98, l101, l102, l103, l104, l105, l106, l107, l108, l109, l110, l111, l112, l113, l114, l115, l116, l117, l118, l119, l121, l122, l127, l255, l700, l1320, l1000000, h3]
  refine wp_for (n - s) (fun i σ => σ = (nI lo, nI up, nI (s + i), w) ∧ rn P b n s = i + rn P b n (s + i)) ?_ (Nat.zero_le _) (by omega) ⟨rfl, by rw [Nat.zero_add]; rfl⟩
  rintro i _ kk hi ⟨rfl, hr⟩ hkk
  show wpO (B_X7_row_5 o (fun x1 x2 x3 w => kk (x1, x2, x3, w)) _ (nI lo) (nI up) (nI (s + i)) w) _
  unfold B_X7_row_5 J_X7_row_39
  have stop : rn P b n (s + i) = 0 → wpO (some (nI (s + i) - w.1 203, w)) (fun r => r = (nI (rn P b n s), w)) := fun h => by
    rw [h3, pk_sub (by omega), show s + i - s = i by omega]
    refine wp_some ?_
    rw [hr, h, Nat.add_zero]
  rcases Nat.lt_or_ge (s + i) n with e | e
  · obtain ⟨c1, c2⟩ := b3 (s + i) e
    simp (disch := omega) only [xB_s, xB2_s, xGet_s, xPut_s, xAld_s, xAst_s, xIf_t, xBool_s, l0, l1, l2, l3, l4, l5, l6, l7, l8, l9, l10, l11, l12, l13, l15, l16, l17, l19, l20, l25, l27, l30, l31, l32, l33, l39, l40, l60, l61, l99, l100, l120, l256, l999, l1999, l99999, lm, nI_add, pk_mul, nI_leI, nI_ltI, nI_eq, wuS_1, wuS_2, wuA_1, wuA_21, wuA_22, nI_m1, m1_nI, nIlt_m1, m1lt_nI, Nat.reduceEqDiff, Nat.reduceAdd, Nat.reduceMul, Nat.reduceSub, Nat.reduceLT, Nat.reduceLeDiff, reduceIte, if_true, if_false, Bool.false_eq_true, Nat.add_zero, Nat.zero_add, ne_eq, not_false_eq_true, not_true_eq_false, Nat.not_lt_zero, Nat.add_left_cancel_iff, Nat.add_right_cancel_iff, eq_self, upd_s, pk_sub, nI_pm, Nat.add_sub_cancel, List.length_cons, List.length_nil, Nat.add_eq_zero_iff, Nat.succ_ne_zero, and_false, false_and, l14, l18, l21, l23, l24, l26, l28, l29, l34, l35, l36, l41, l42, l43, l45, l47, l48, l49, l50, l51, l52, l57, l58, l59, l62, l63, l64, l96, l97, l98, l101, l102, l103, l104, l105, l106, l107, l108, l109, l110, l111, l112, l113, l114, l115, l116, l117, l118, l119, l121, l122, l127, l255, l700, l1320, l1000000, b2, show (n ≤ s + i) = False from eq_false (by omega), c2]
    have st := stop
    simp (disch := omega) only [xB_s, xB2_s, xGet_s, xPut_s, xAld_s, xAst_s, xIf_t, xBool_s, l0, l1, l2, l3, l4, l5, l6, l7, l8, l9, l10, l11, l12, l13, l15, l16, l17, l19, l20, l25, l27, l30, l31, l32, l33, l39, l40, l60, l61, l99, l100, l120, l256, l999, l1999, l99999, lm, nI_add, pk_mul, nI_leI, nI_ltI, nI_eq, wuS_1, wuS_2, wuA_1, wuA_21, wuA_22, nI_m1, m1_nI, nIlt_m1, m1lt_nI, Nat.reduceEqDiff, Nat.reduceAdd, Nat.reduceMul, Nat.reduceSub, Nat.reduceLT, Nat.reduceLeDiff, reduceIte, if_true, if_false, Bool.false_eq_true, Nat.add_zero, Nat.zero_add, ne_eq, not_false_eq_true, not_true_eq_false, Nat.not_lt_zero, Nat.add_left_cancel_iff, Nat.add_right_cancel_iff, eq_self, upd_s, pk_sub, nI_pm, Nat.add_sub_cancel, List.length_cons, List.length_nil, Nat.add_eq_zero_iff, Nat.succ_ne_zero, and_false, false_and, l14, l18, l21, l23, l24, l26, l28, l29, l34, l35, l36, l41, l42, l43, l45, l47, l48, l49, l50, l51, l52, l57, l58, l59, l62, l63, l64, l96, l97, l98, l101, l102, l103, l104, l105, l106, l107, l108, l109, l110, l111, l112, l113, l114, l115, l116, l117, l118, l119, l121, l122, l127, l255, l700, l1320, l1000000, h3] at st
    by_cases q1 : sgB (b (s + i)) < nI lo
    · rw [if_pos q1]
      rw [h3] at stop
      have hp : P (b (s + i)) = false := by
        cases hh : P (b (s + i)) with
        | false => rfl
        | true => exact absurd q1 ((hP _ c1).mp hh).1
      simp (disch := omega) only [xB_s, xB2_s, xGet_s, xPut_s, xAld_s, xAst_s, xIf_t, xBool_s, l0, l1, l2, l3, l4, l5, l6, l7, l8, l9, l10, l11, l12, l13, l15, l16, l17, l19, l20, l25, l27, l30, l31, l32, l33, l39, l40, l60, l61, l99, l100, l120, l256, l999, l1999, l99999, lm, nI_add, pk_mul, nI_leI, nI_ltI, nI_eq, wuS_1, wuS_2, wuA_1, wuA_21, wuA_22, nI_m1, m1_nI, nIlt_m1, m1lt_nI, Nat.reduceEqDiff, Nat.reduceAdd, Nat.reduceMul, Nat.reduceSub, Nat.reduceLT, Nat.reduceLeDiff, reduceIte, if_true, if_false, Bool.false_eq_true, Nat.add_zero, Nat.zero_add, ne_eq, not_false_eq_true, not_true_eq_false, Nat.not_lt_zero, Nat.add_left_cancel_iff, Nat.add_right_cancel_iff, eq_self, upd_s, pk_sub, nI_pm, Nat.add_sub_cancel, List.length_cons, List.length_nil, Nat.add_eq_zero_iff, Nat.succ_ne_zero, and_false, false_and, l14, l18, l21, l23, l24, l26, l28, l29, l34, l35, l36, l41, l42, l43, l45, l47, l48, l49, l50, l51, l52, l57, l58, l59, l62, l63, l64, l96, l97, l98, l101, l102, l103, l104, l105, l106, l107, l108, l109, l110, l111, l112, l113, l114, l115, l116, l117, l118, l119, l121, l122, l127, l255, l700, l1320, l1000000, h3]
      exact st (rn_n (Or.inr hp))
    · rw [if_neg q1]
      by_cases q2 : nI up < sgB (b (s + i))
      · rw [if_pos q2]
        have hp : P (b (s + i)) = false := by
          cases hh : P (b (s + i)) with
          | false => rfl
          | true => exact absurd q2 ((hP _ c1).mp hh).2
        simp (disch := omega) only [xB_s, xB2_s, xGet_s, xPut_s, xAld_s, xAst_s, xIf_t, xBool_s, l0, l1, l2, l3, l4, l5, l6, l7, l8, l9, l10, l11, l12, l13, l15, l16, l17, l19, l20, l25, l27, l30, l31, l32, l33, l39, l40, l60, l61, l99, l100, l120, l256, l999, l1999, l99999, lm, nI_add, pk_mul, nI_leI, nI_ltI, nI_eq, wuS_1, wuS_2, wuA_1, wuA_21, wuA_22, nI_m1, m1_nI, nIlt_m1, m1lt_nI, Nat.reduceEqDiff, Nat.reduceAdd, Nat.reduceMul, Nat.reduceSub, Nat.reduceLT, Nat.reduceLeDiff, reduceIte, if_true, if_false, Bool.false_eq_true, Nat.add_zero, Nat.zero_add, ne_eq, not_false_eq_true, not_true_eq_false, Nat.not_lt_zero, Nat.add_left_cancel_iff, Nat.add_right_cancel_iff, eq_self, upd_s, pk_sub, nI_pm, Nat.add_sub_cancel, List.length_cons, List.length_nil, Nat.add_eq_zero_iff, Nat.succ_ne_zero, and_false, false_and, l14, l18, l21, l23, l24, l26, l28, l29, l34, l35, l36, l41, l42, l43, l45, l47, l48, l49, l50, l51, l52, l57, l58, l59, l62, l63, l64, l96, l97, l98, l101, l102, l103, l104, l105, l106, l107, l108, l109, l110, l111, l112, l113, l114, l115, l116, l117, l118, l119, l121, l122, l127, l255, l700, l1320, l1000000, h3]
        exact st (rn_n (Or.inr hp))
      · rw [if_neg q2]
        refine hkk (by omega) _ ⟨by rw [Nat.add_assoc], ?_⟩
        rw [hr, rn_y e ((hP _ c1).mpr ⟨q1, q2⟩)]
        rw [show s + (i + 1) = s + i + 1 by omega]
        omega
  · simp (disch := omega) only [xB_s, xB2_s, xGet_s, xPut_s, xAld_s, xAst_s, xIf_t, xBool_s, l0, l1, l2, l3, l4, l5, l6, l7, l8, l9, l10, l11, l12, l13, l15, l16, l17, l19, l20, l25, l27, l30, l31, l32, l33, l39, l40, l60, l61, l99, l100, l120, l256, l999, l1999, l99999, lm, nI_add, pk_mul, nI_leI, nI_ltI, nI_eq, wuS_1, wuS_2, wuA_1, wuA_21, wuA_22, nI_m1, m1_nI, nIlt_m1, m1lt_nI, Nat.reduceEqDiff, Nat.reduceAdd, Nat.reduceMul, Nat.reduceSub, Nat.reduceLT, Nat.reduceLeDiff, reduceIte, if_true, if_false, Bool.false_eq_true, Nat.add_zero, Nat.zero_add, ne_eq, not_false_eq_true, not_true_eq_false, Nat.not_lt_zero, Nat.add_left_cancel_iff, Nat.add_right_cancel_iff, eq_self, upd_s, pk_sub, nI_pm, Nat.add_sub_cancel, List.length_cons, List.length_nil, Nat.add_eq_zero_iff, Nat.succ_ne_zero, and_false, false_and, l14, l18, l21, l23, l24, l26, l28, l29, l34, l35, l36, l41, l42, l43, l45, l47, l48, l49, l50, l51, l52, l57, l58, l59, l62, l63, l64, l96, l97, l98, l101, l102, l103, l104, l105, l106, l107, l108, l109, l110, l111, l112, l113, l114, l115, l116, l117, l118, l119, l121, l122, l127, l255, l700, l1320, l1000000, b2, show (n ≤ s + i) = True from eq_true e]
    exact stop (rn_n (Or.inl e))
end
