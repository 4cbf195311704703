section
/-! ===== the row in the class's cells ===== -/
def XY (y : Yw) (A : Nat → Int32) : Prop := A 0 = oI (yR y) ∧ (∀ p, p < 8 → A (1 + p) = nI (yH y p)) ∧ (∀ p, p < 8 → A (9 + p) = nI (yL y p)) ∧ (∀ p, p < 8 → A (17 + p) = nI (yU y p)) ∧ (∀ d, d < 6 → A (25 + d) = nI (yE y d)) ∧ A 31 = nI (yD y) ∧ A 32 = yI y
theorem XY.ringer {y : Yw} {A : Nat → Int32} {r : Option Nat} (h : XY y A) : XY ((yD y, r, yI y), y.2) (upd A 0 (oI r)) := by
  obtain ⟨h0, h1, h9, h17, h25, h31, h32⟩ := h
  refine ⟨by rw [upd_s, if_pos rfl], fun p hp => by rw [upd_s, if_neg (by omega)]; exact h1 p hp, fun p hp => by rw [upd_s, if_neg (by omega)]; exact h9 p hp, fun p hp => by rw [upd_s, if_neg (by omega)]; exact h17 p hp, fun p hp => by rw [upd_s, if_neg (by omega)]; exact h25 p hp, by rw [upd_s, if_neg (by omega)]; exact h31, by rw [upd_s, if_neg (by omega)]; exact h32⟩
theorem XY.haste {y : Yw} {A : Nat → Int32} {k v : Nat} (hk : k < 8) (h : XY y A) : XY (y.1, fu (yH y) k v, yL y, yU y, yE y) (upd A (1 + k) (nI v)) := by
  obtain ⟨h0, h1, h9, h17, h25, h31, h32⟩ := h
  refine ⟨by rw [upd_s, if_neg (by omega)]; exact h0, ?_, fun p hp => by rw [upd_s, if_neg (by omega)]; exact h9 p hp, fun p hp => by rw [upd_s, if_neg (by omega)]; exact h17 p hp, fun p hp => by rw [upd_s, if_neg (by omega)]; exact h25 p hp, by rw [upd_s, if_neg (by omega)]; exact h31, by rw [upd_s, if_neg (by omega)]; exact h32⟩
  intro p hp
  show upd A (1 + k) (nI v) (1 + p) = nI (fu (yH y) k v p)
  rw [upd_s, fu_s]
  by_cases e : p = k
  · subst e; rw [if_pos rfl, if_pos rfl]
  · rw [if_neg (by omega), if_neg e]; exact h1 p hp
theorem XY.late {y : Yw} {A : Nat → Int32} {k v : Nat} (hk : k < 8) (h : XY y A) : XY (y.1, yH y, fu (yL y) k v, yU y, yE y) (upd A (9 + k) (nI v)) := by
  obtain ⟨h0, h1, h9, h17, h25, h31, h32⟩ := h
  refine ⟨by rw [upd_s, if_neg (by omega)]; exact h0, fun p hp => by rw [upd_s, if_neg (by omega)]; exact h1 p hp, ?_, fun p hp => by rw [upd_s, if_neg (by omega)]; exact h17 p hp, fun p hp => by rw [upd_s, if_neg (by omega)]; exact h25 p hp, by rw [upd_s, if_neg (by omega)]; exact h31, by rw [upd_s, if_neg (by omega)]; exact h32⟩
  intro p hp
  show upd A (9 + k) (nI v) (9 + p) = nI (fu (yL y) k v p)
  rw [upd_s, fu_s]
  by_cases e : p = k
  · subst e; rw [if_pos rfl, if_pos rfl]
  · rw [if_neg (by omega), if_neg e]; exact h9 p hp
theorem XY.rung {y : Yw} {A : Nat → Int32} {k v : Nat} (hk : k < 8) (h : XY y A) : XY (y.1, yH y, yL y, fu (yU y) k v, yE y) (upd A (17 + k) (nI v)) := by
  obtain ⟨h0, h1, h9, h17, h25, h31, h32⟩ := h
  refine ⟨by rw [upd_s, if_neg (by omega)]; exact h0, fun p hp => by rw [upd_s, if_neg (by omega)]; exact h1 p hp, fun p hp => by rw [upd_s, if_neg (by omega)]; exact h9 p hp, ?_, fun p hp => by rw [upd_s, if_neg (by omega)]; exact h25 p hp, by rw [upd_s, if_neg (by omega)]; exact h31, by rw [upd_s, if_neg (by omega)]; exact h32⟩
  intro p hp
  show upd A (17 + k) (nI v) (17 + p) = nI (fu (yU y) k v p)
  rw [upd_s, fu_s]
  by_cases e : p = k
  · subst e; rw [if_pos rfl, if_pos rfl]
  · rw [if_neg (by omega), if_neg e]; exact h17 p hp
theorem XY.due {y : Yw} {A : Nat → Int32} {k v : Nat} (hk : k < 6) (h : XY y A) : XY (y.1, yH y, yL y, yU y, fu (yE y) k v) (upd A (25 + k) (nI v)) := by
  obtain ⟨h0, h1, h9, h17, h25, h31, h32⟩ := h
  refine ⟨by rw [upd_s, if_neg (by omega)]; exact h0, fun p hp => by rw [upd_s, if_neg (by omega)]; exact h1 p hp, fun p hp => by rw [upd_s, if_neg (by omega)]; exact h9 p hp, fun p hp => by rw [upd_s, if_neg (by omega)]; exact h17 p hp, ?_, by rw [upd_s, if_neg (by omega)]; exact h31, by rw [upd_s, if_neg (by omega)]; exact h32⟩
  intro p hp
  show upd A (25 + k) (nI v) (25 + p) = nI (fu (yE y) k v p)
  rw [upd_s, fu_s]
  by_cases e : p = k
  · subst e; rw [if_pos rfl, if_pos rfl]
  · rw [if_neg (by omega), if_neg e]; exact h25 p hp
theorem XY.day {y : Yw} {A : Nat → Int32} {v : Nat} (h : XY y A) : XY ((v, yR y, yI y), y.2) (upd A 31 (nI v)) := by
  obtain ⟨h0, h1, h9, h17, h25, h31, h32⟩ := h
  refine ⟨by rw [upd_s, if_neg (by omega)]; exact h0, fun p hp => by rw [upd_s, if_neg (by omega)]; exact h1 p hp, fun p hp => by rw [upd_s, if_neg (by omega)]; exact h9 p hp, fun p hp => by rw [upd_s, if_neg (by omega)]; exact h17 p hp, fun p hp => by rw [upd_s, if_neg (by omega)]; exact h25 p hp, by rw [upd_s, if_pos rfl], by rw [upd_s, if_neg (by omega)]; exact h32⟩
theorem XY.ill {y : Yw} {A : Nat → Int32} {v : Int32} (h : XY y A) : XY ((yD y, yR y, v), y.2) (upd A 32 (v)) := by
  obtain ⟨h0, h1, h9, h17, h25, h31, h32⟩ := h
  refine ⟨by rw [upd_s, if_neg (by omega)]; exact h0, fun p hp => by rw [upd_s, if_neg (by omega)]; exact h1 p hp, fun p hp => by rw [upd_s, if_neg (by omega)]; exact h9 p hp, fun p hp => by rw [upd_s, if_neg (by omega)]; exact h17 p hp, fun p hp => by rw [upd_s, if_neg (by omega)]; exact h25 p hp, by rw [upd_s, if_neg (by omega)]; exact h31, by rw [upd_s, if_pos rfl]⟩
theorem XY.cp {y : Yw} {A A' : Nat → Int32} (h : XY y A) (e : ∀ k, k < 33 → A' k = A k) : XY y A' := by
  obtain ⟨h0, h1, h9, h17, h25, h31, h32⟩ := h
  exact ⟨(e _ (by omega)).trans h0, fun p hp => (e _ (by omega)).trans (h1 p hp), fun p hp => (e _ (by omega)).trans (h9 p hp), fun p hp => (e _ (by omega)).trans (h17 p hp), fun p hp => (e _ (by omega)).trans (h25 p hp), (e _ (by omega)).trans h31, (e _ (by omega)).trans h32⟩
theorem xRef_A (w : wS) (c : Nat) (f : Nat → Int32) (k a : Nat) : xRef (wuA w c f) k a = xRef w k a := Eq.trans rfl rfl
theorem xRef_S (w : wS) (c : Nat) (v : Int32) (k a : Nat) : xRef (wuS w c v) k a = xRef w k a := Eq.trans rfl rfl
theorem xNu_A {γ : Type} (w : wS) (c : Nat) (f : Nat → Int32) (k a : Nat) (x z : Option γ) : xNu (wuA w c f) k a x z = xNu w k a x z := Eq.trans rfl rfl
theorem xNu_S {γ : Type} (w : wS) (c : Nat) (v : Int32) (k a : Nat) (x z : Option γ) : xNu (wuS w c v) k a x z = xNu w k a x z := Eq.trans rfl rfl
theorem xNu_n {γ : Type} {w : wS} {k a : Nat} {x z : Option γ} (h : w.2.2.2.2 k = .null) : xNu w k a x z = x := by
  unfold xNu; rw [if_pos h]
theorem xNu_r {γ : Type} {w : wS} {k a : Nat} {x z : Option γ} (h : w.2.2.2.2 k = .ref a) (ha : a ≠ 0) : xNu w k a x z = z := by
  unfold xNu; rw [if_neg (by rw [h]; intro q; cases q), if_pos ⟨h, ha⟩]
theorem xRef_t {w : wS} {k a : Nat} (h : w.2.2.2.2 k = .ref a) : xRef w k a = true := decide_eq_true h
/-! ===== the town in the class ===== -/
def RX (r : Option (List Op)) (v : Value) (a n : Nat) (A : Nat → Int32) : Prop := match r with
  | none => v = .null
  | some s => v = .ref a ∧ a ≠ 0 ∧ n = s.length ∧ ∀ (j : Nat) (x : Op), s[j]? = some x → A j = xSt x
/-- all but the habits -/
def XB (t : Tn) (o : wO) (w : wS) : Prop := w.1 100006 = nI (tP t) ∧ w.1 100007 = nI (tD t) ∧ w.1 100008 = nI (tC t) ∧ (∀ p, p < tP t → w.2.1 1001 p = nI (tK t p)) ∧ (∀ p, p < tP t → w.2.1 1004 p = nI (tO t p)) ∧ (∀ d, d < tD t → w.2.1 1006 d = nI (tW t d)) ∧ RX (tR t) (w.2.2.2.2 100009) (oR o) (oRn o) (w.2.1 2001) ∧ RX (tS t) (w.2.2.2.2 100010) (oS o) (oSn o) (w.2.1 3001)
/-- the course's town, with the course's habits -/
def XC (t : Tn) (o : wO) (w : wS) : Prop := XB t o w ∧ w.2.2.2.2 3010 = .ref (oT o) ∧ ∀ p, p < tP t → w.2.1 33 p = nI (tH t p)
/-- the town itself -/
def XT (t : Tn) (o : wO) (w : wS) : Prop := XB t o w ∧ w.2.2.2.2 9 = .ref (oT o) ∧ ∀ p, p < tP t → w.2.1 1002 p = nI (tH t p)
abbrev xKs : List Nat := [3008, 3011]
abbrev xAs : List Nat := [32, 34, 35, 36, 37, 38, 39, 40, 2002, 3002]
theorem XB.of {t : Tn} {o : wO} {w w' : wS} (h : XB t o w) (h1 : ∀ k, 100000 ≤ k → w'.1 k = w.1 k) (h2 : ∀ c, c ∈ [1001, 1004, 1006, 2001, 3001] → w'.2.1 c = w.2.1 c) (h3 : ∀ k, 100000 ≤ k → w'.2.2.2.2 k = w.2.2.2.2 k) : XB t o w' := by
  unfold XB
  rw [h1 100006 (by omega), h1 100007 (by omega), h1 100008 (by omega), h2 1001 (by decide), h2 1004 (by decide), h2 1006 (by decide), h2 2001 (by decide), h2 3001 (by decide), h3 100009 (by omega), h3 100010 (by omega)]
  exact h
theorem XC.of {t : Tn} {o : wO} {w w' : wS} (h : XC t o w) (h1 : ∀ k, 100000 ≤ k → w'.1 k = w.1 k) (h2 : ∀ c, c ∈ [33, 1001, 1004, 1006, 2001, 3001] → w'.2.1 c = w.2.1 c) (h3 : w'.2.2 = w.2.2) : XC t o w' := by
  refine ⟨h.1.of h1 (fun c hc => h2 c (by simp at hc ⊢; omega)) (fun k _ => by rw [h3]), by rw [h3]; exact h.2.1, fun p hp => ?_⟩
  rw [h2 33 (by decide)]; exact h.2.2 p hp
theorem XC.fr {t : Tn} {o : wO} {w w' : wS} (h : XC t o w) (F : Fr xKs xAs w w') : XC t o w' := h.of (fun k hk => F.1 k (by simp; omega)) (fun c hc => F.2.1 c (by simp at hc ⊢; omega)) F.2.2
theorem x_dist {t : Tn} {o : wO} {w : wS} {p d : Nat} (T : XB t o w) (ho : tOk t) (hp : p < tP t) (hd : d < tD t) : L_X8_distance o (nI p) (nI d) w = some (nI (far t p d), w) := by
  obtain ⟨t1, t2, t3, t4, t5, t6, t7, t8⟩ := T
  have b1 := ho.1
  have b2 := ho.2.1
  have b3 := ho.2.2.2.2.2.1 p
  have b4 := ho.2.2.2.2.2.2.1 d
  have e := xAbs_sub (a := tO t p) (b := tW t d) (by omega) (by omega)
  unfold L_X8_distance far
  rw [xAld_s (by omega) (by omega), xB_s, xAld_s (by omega) (by omega), xB_s, t5 p hp, t6 d hd, e]
theorem x_minutes {t : Tn} {o : wO} {w : wS} {p d a c : Nat} (T : XB t o w) (ho : tOk t) (hp : p < tP t) (hd : d < tD t) (ha : a ≤ 60) (hc : c ≤ 60) : L_X8_minutes o (nI p) (nI d) (nI a) (nI c) w = some (nI (tC t * far t p d + a - c), w) := by
  have e := x_dist T ho hp hd
  have h1 := far_le ho p d
  have h2 := ho.2.2.1
  have h3 : tC t * far t p d ≤ 9 * 30 := Nat.mul_le_mul h2 h1
  have e2 := xMax_sub (a := tC t * far t p d + a) (b := c) (by omega) (by omega)
  unfold L_X8_minutes
  rw [xGet_s, xB_s, e, xB2_s, T.2.2.1, pk_mul, nI_add, l0, e2]
theorem x_isIll {o : wO} {w : wS} {y : Yw} {p : Nat} (Y : w.2.1 32 32 = yI y) (hp : p < 8) : L_X5_isIll_x31 o (nI p) w = some (nI (bN (yI y) p), w) := by
  have b3 := bN_le (yI y) p
  unfold L_X5_isIll_x31 J_X5_isIll_x31_20
  simp (disch := omega) only [xB_s, xB2_s, xGet_s, xPut_s, xAld_s, xAst_s, xIf_t, xBool_s, l0, l1, l2, l3, l4, l5, l6, l7, l8, l9, l10, l11, l12, l13, l15, l16, l17, l19, l20, l25, l27, l30, l31, l32, l33, l39, l40, l60, l61, l99, l100, l120, l256, l999, l1999, l99999, lm, nI_add, pk_mul, nI_leI, nI_ltI, nI_eq, wuS_1, wuS_2, wuA_1, wuA_21, wuA_22, nI_m1, m1_nI, nIlt_m1, m1lt_nI, Nat.reduceEqDiff, Nat.reduceAdd, Nat.reduceMul, Nat.reduceSub, Nat.reduceLT, Nat.reduceLeDiff, reduceIte, if_true, if_false, Bool.false_eq_true, Nat.add_zero, Nat.zero_add, ne_eq, not_false_eq_true, not_true_eq_false, Nat.not_lt_zero, Nat.add_left_cancel_iff, Nat.add_right_cancel_iff, eq_self, upd_s, pk_sub, nI_pm, Nat.add_sub_cancel, List.length_cons, List.length_nil, Nat.add_eq_zero_iff, Nat.succ_ne_zero, and_false, false_and, Y, bit_s]
  by_cases h : bN (yI y) p = 1
  · rw [if_pos h, h]
  · rw [if_neg h, show bN (yI y) p = 0 by omega]
theorem x_values {t : Tn} {y : Yw} {o : wO} {w : wS} {p d : Nat} (T : XC t o w) (Y : XY y (w.2.1 32)) (ho : tOk t) (hp : p < tP t) (hd : d < tD t) : wpO (L_X1_valuesOf o (nI p) (nI d) w) (fun w' => Fr [] [40] w w' ∧ ∀ k, k < 7 → w'.2.1 40 k = val t y p d k) := by
  have b1 := ho.1
  have b2 := ho.2.1
  have hp8 : p < 8 := Nat.lt_of_lt_of_le hp b1
  have r1 := xRef_t T.2.1
  obtain ⟨y0, y1, y9, y17, y25, y31, y32⟩ := Y
  have e : ∀ w' : wS, XB t o w' → L_X8_distance o (nI p) (nI d) w' = some (nI (far t p d), w') := fun w' T' => x_dist T' ho hp hd
  unfold L_X1_valuesOf L_X5_lateOf_x31 L_X5_hasteOf_x31 L_X5_rungOf_x31 L_X5_day_x31
  simp (disch := omega) only [xB_s, xB2_s, xGet_s, xPut_s, xAld_s, xAst_s, xIf_t, xBool_s, l0, l1, l2, l3, l4, l5, l6, l7, l8, l9, l10, l11, l12, l13, l15, l16, l17, l19, l20, l25, l27, l30, l31, l32, l33, l39, l40, l60, l61, l99, l100, l120, l256, l999, l1999, l99999, lm, nI_add, pk_mul, nI_leI, nI_ltI, nI_eq, wuS_1, wuS_2, wuA_1, wuA_21, wuA_22, nI_m1, m1_nI, nIlt_m1, m1lt_nI, Nat.reduceEqDiff, Nat.reduceAdd, Nat.reduceMul, Nat.reduceSub, Nat.reduceLT, Nat.reduceLeDiff, reduceIte, if_true, if_false, Bool.false_eq_true, Nat.add_zero, Nat.zero_add, ne_eq, not_false_eq_true, not_true_eq_false, Nat.not_lt_zero, Nat.add_left_cancel_iff, Nat.add_right_cancel_iff, eq_self, upd_s, pk_sub, nI_pm, Nat.add_sub_cancel, List.length_cons, List.length_nil, Nat.add_eq_zero_iff, Nat.succ_ne_zero, and_false, false_and, y1 p hp8, y9 p hp8, y17 p hp8, y31, T.2.2 p hp, xRef_A, xRef_S, r1]
  rw [e]
  · simp (disch := omega) only [xB_s, xB2_s, xGet_s, xPut_s, xAld_s, xAst_s, xIf_t, xBool_s, l0, l1, l2, l3, l4, l5, l6, l7, l8, l9, l10, l11, l12, l13, l15, l16, l17, l19, l20, l25, l27, l30, l31, l32, l33, l39, l40, l60, l61, l99, l100, l120, l256, l999, l1999, l99999, lm, nI_add, pk_mul, nI_leI, nI_ltI, nI_eq, wuS_1, wuS_2, wuA_1, wuA_21, wuA_22, nI_m1, m1_nI, nIlt_m1, m1lt_nI, Nat.reduceEqDiff, Nat.reduceAdd, Nat.reduceMul, Nat.reduceSub, Nat.reduceLT, Nat.reduceLeDiff, reduceIte, if_true, if_false, Bool.false_eq_true, Nat.add_zero, Nat.zero_add, ne_eq, not_false_eq_true, not_true_eq_false, Nat.not_lt_zero, Nat.add_left_cancel_iff, Nat.add_right_cancel_iff, eq_self, upd_s, pk_sub, nI_pm, Nat.add_sub_cancel, List.length_cons, List.length_nil, Nat.add_eq_zero_iff, Nat.succ_ne_zero, and_false, false_and]
    refine wp_some ⟨(((((((Fr.refl).A (by decide)).A (by decide)).A (by decide)).A (by decide)).A (by decide)).A (by decide)).A (by decide), ?_⟩
    intro k hk
    have h7 : k = 0 ∨ k = 1 ∨ k = 2 ∨ k = 3 ∨ k = 4 ∨ k = 5 ∨ k = 6 := by omega
    rcases h7 with rfl | rfl | rfl | rfl | rfl | rfl | rfl <;> simp (disch := omega) only [xB_s, xB2_s, xGet_s, xPut_s, xAld_s, xAst_s, xIf_t, xBool_s, l0, l1, l2, l3, l4, l5, l6, l7, l8, l9, l10, l11, l12, l13, l15, l16, l17, l19, l20, l25, l27, l30, l31, l32, l33, l39, l40, l60, l61, l99, l100, l120, l256, l999, l1999, l99999, lm, nI_add, pk_mul, nI_leI, nI_ltI, nI_eq, wuS_1, wuS_2, wuA_1, wuA_21, wuA_22, nI_m1, m1_nI, nIlt_m1, m1lt_nI, Nat.reduceEqDiff, Nat.reduceAdd, Nat.reduceMul, Nat.reduceSub, Nat.reduceLT, Nat.reduceLeDiff, reduceIte, if_true, if_false, Bool.false_eq_true, Nat.add_zero, Nat.zero_add, ne_eq, not_false_eq_true, not_true_eq_false, Nat.not_lt_zero, Nat.add_left_cancel_iff, Nat.add_right_cancel_iff, eq_self, upd_s, pk_sub, nI_pm, Nat.add_sub_cancel, List.length_cons, List.length_nil, Nat.add_eq_zero_iff, Nat.succ_ne_zero, and_false, false_and, val]
  · refine T.1.of (fun k _ => rfl) (fun c hc => ?_) (fun k _ => rfl)
    simp at hc
    rw [wuA_21, if_neg (by omega), wuA_21, if_neg (by omega), wuA_21, if_neg (by omega), wuA_21, if_neg (by omega), wuA_21, if_neg (by omega), wuA_21, if_neg (by omega)]
/-- who comes next -/
def exC (sn : Nat) : Ex := fun _ _ => sn
theorem x_canBeLast {t : Tn} {y : Yw} {ex : Ex} {o : wO} {w : wS} {p d : Nat} (T : XC t o w) (ho : tOk t) (hp : p < tP t) (h35 : w.2.1 35 p = oI (cam t ex y d p)) (hN : cmN t ex y d p < 2 ^ 31) : L_X1_canBeLast o (nI p) w = some (nI (canL t y p).toNat, w) := by
  have b1 := ho.1
  have b2 := ho.2.2.2.1 p
  have r1 := xRef_t T.2.1
  unfold L_X1_canBeLast J_X1_canBeLast_27 J_X1_canBeLast_28 canL
  cases hc : cmB t y p with
  | false =>
    rw [cam_f hc] at h35
    simp (disch := omega) only [xB_s, xB2_s, xGet_s, xPut_s, xAld_s, xAst_s, xIf_t, xBool_s, l0, l1, l2, l3, l4, l5, l6, l7, l8, l9, l10, l11, l12, l13, l15, l16, l17, l19, l20, l25, l27, l30, l31, l32, l33, l39, l40, l60, l61, l99, l100, l120, l256, l999, l1999, l99999, lm, nI_add, pk_mul, nI_leI, nI_ltI, nI_eq, wuS_1, wuS_2, wuA_1, wuA_21, wuA_22, nI_m1, m1_nI, nIlt_m1, m1lt_nI, Nat.reduceEqDiff, Nat.reduceAdd, Nat.reduceMul, Nat.reduceSub, Nat.reduceLT, Nat.reduceLeDiff, reduceIte, if_true, if_false, Bool.false_eq_true, Nat.add_zero, Nat.zero_add, ne_eq, not_false_eq_true, not_true_eq_false, Nat.not_lt_zero, Nat.add_left_cancel_iff, Nat.add_right_cancel_iff, eq_self, upd_s, pk_sub, nI_pm, Nat.add_sub_cancel, List.length_cons, List.length_nil, Nat.add_eq_zero_iff, Nat.succ_ne_zero, and_false, false_and, h35, oI_n, Bool.false_and, Bool.toNat_false]
  | true =>
    rw [cam_t hc] at h35
    simp (disch := omega) only [xB_s, xB2_s, xGet_s, xPut_s, xAld_s, xAst_s, xIf_t, xBool_s, l0, l1, l2, l3, l4, l5, l6, l7, l8, l9, l10, l11, l12, l13, l15, l16, l17, l19, l20, l25, l27, l30, l31, l32, l33, l39, l40, l60, l61, l99, l100, l120, l256, l999, l1999, l99999, lm, nI_add, pk_mul, nI_leI, nI_ltI, nI_eq, wuS_1, wuS_2, wuA_1, wuA_21, wuA_22, nI_m1, m1_nI, nIlt_m1, m1lt_nI, Nat.reduceEqDiff, Nat.reduceAdd, Nat.reduceMul, Nat.reduceSub, Nat.reduceLT, Nat.reduceLeDiff, reduceIte, if_true, if_false, Bool.false_eq_true, Nat.add_zero, Nat.zero_add, ne_eq, not_false_eq_true, not_true_eq_false, Nat.not_lt_zero, Nat.add_left_cancel_iff, Nat.add_right_cancel_iff, eq_self, upd_s, pk_sub, nI_pm, Nat.add_sub_cancel, List.length_cons, List.length_nil, Nat.add_eq_zero_iff, Nat.succ_ne_zero, and_false, false_and, h35, oI_s, r1, T.1.2.2.2.1 p hp]
    by_cases h : tK t p = 1
    · rw [if_pos h]; simp [h]
    · rw [if_neg h]; simp [h]
theorem x_leads {t : Tn} {o : wO} {w : wS} {p q d : Nat} (ho : tOk t) (hp : p < tP t) (hq : q < tP t) (h1 : w.2.1 36 p = nI (far t p d)) (h2 : w.2.1 36 q = nI (far t q d)) : L_X1_leads o (nI p) (nI q) w = some (nI (decide (far t p d < far t q d) || (decide (far t p d = far t q d) && decide (p < q))).toNat, w) := by
  have b1 := ho.1
  have f1 := far_le ho p d
  have f2 := far_le ho q d
  unfold L_X1_leads J_X1_leads_39 J_X1_leads_35 J_X1_leads_40
  simp (disch := omega) only [xB_s, xB2_s, xGet_s, xPut_s, xAld_s, xAst_s, xIf_t, xBool_s, l0, l1, l2, l3, l4, l5, l6, l7, l8, l9, l10, l11, l12, l13, l15, l16, l17, l19, l20, l25, l27, l30, l31, l32, l33, l39, l40, l60, l61, l99, l100, l120, l256, l999, l1999, l99999, lm, nI_add, pk_mul, nI_leI, nI_ltI, nI_eq, wuS_1, wuS_2, wuA_1, wuA_21, wuA_22, nI_m1, m1_nI, nIlt_m1, m1lt_nI, Nat.reduceEqDiff, Nat.reduceAdd, Nat.reduceMul, Nat.reduceSub, Nat.reduceLT, Nat.reduceLeDiff, reduceIte, if_true, if_false, Bool.false_eq_true, Nat.add_zero, Nat.zero_add, ne_eq, not_false_eq_true, not_true_eq_false, Nat.not_lt_zero, Nat.add_left_cancel_iff, Nat.add_right_cancel_iff, eq_self, upd_s, pk_sub, nI_pm, Nat.add_sub_cancel, List.length_cons, List.length_nil, Nat.add_eq_zero_iff, Nat.succ_ne_zero, and_false, false_and, h1, h2]
  by_cases g2 : far t p d < far t q d
  · rw [if_pos g2]; simp [g2]
  · rw [if_neg g2]
    by_cases g3 : far t p d = far t q d
    · rw [if_pos g3]
      by_cases g4 : q ≤ p
      · rw [if_pos g4]; simp [g3, Nat.not_lt.mpr g4]
      · rw [if_neg g4]; simp [g3, Nat.not_le.mp g4]
    · rw [if_neg g3]; simp [g2, g3]
def canW (t : Tn) (y : Yw) (v : Int32) (p : Nat) : Bool := decide (bN v p = 0) && canL t y p
theorem canW_0 (t : Tn) (y : Yw) : canW t y (nI 0) = canL t y := by
  funext p
  unfold canW
  rw [bit_0]; simp
theorem x_lastWithout {t : Tn} {y : Yw} {ex : Ex} {o : wO} {w : wS} {d : Nat} {v : Int32} (T : XC t o w) (ho : tOk t) (h35 : ∀ p, p < tP t → w.2.1 35 p = oI (cam t ex y d p)) (h36 : ∀ p, p < tP t → w.2.1 36 p = nI (far t p d)) (hN : ∀ p, p < tP t → cmN t ex y d p < 2 ^ 30) : L_X1_lastWithout o v w = some (oI (lstW (canW t y v) (cmN t ex y d) (fun p => far t p d) (tP t)), w) := by
  have b1 := ho.1
  have r1 := xRef_t T.2.1
  suffices h : wpO (L_X1_lastWithout o v w) (fun r => r = (oI (lstW (canW t y v) (cmN t ex y d) (fun p => far t p d) (tP t)), w)) by
    obtain ⟨a, e, rfl⟩ := h; exact e
  unfold L_X1_lastWithout P_X1_lastWithout_4
  refine wp_for (tP t) (fun i σ => σ = (v, oI (lstW (canW t y v) (cmN t ex y d) (fun p => far t p d) i), nI i, w)) ?_ (Nat.zero_le _) (by omega) rfl
  rintro i _ kk hi rfl hkk
  show wpO (B_X1_lastWithout_4 o (fun x1 x2 x3 w => kk (x1, x2, x3, w)) _ v (oI _) (nI i) w) _
  unfold B_X1_lastWithout_4 J_X1_lastWithout_75 J_X1_lastWithout_77
  by_cases hlt : i < tP t
  · have e2 := x_canBeLast T ho hlt (h35 i hlt) (Nat.lt_trans (hN i hlt) (by omega))
    have hb := bN_le v i
    have hn := hN i hlt
    simp (disch := omega) only [xB_s, xB2_s, xGet_s, xPut_s, xAld_s, xAst_s, xIf_t, xBool_s, l0, l1, l2, l3, l4, l5, l6, l7, l8, l9, l10, l11, l12, l13, l15, l16, l17, l19, l20, l25, l27, l30, l31, l32, l33, l39, l40, l60, l61, l99, l100, l120, l256, l999, l1999, l99999, lm, nI_add, pk_mul, nI_leI, nI_ltI, nI_eq, wuS_1, wuS_2, wuA_1, wuA_21, wuA_22, nI_m1, m1_nI, nIlt_m1, m1lt_nI, Nat.reduceEqDiff, Nat.reduceAdd, Nat.reduceMul, Nat.reduceSub, Nat.reduceLT, Nat.reduceLeDiff, reduceIte, if_true, if_false, Bool.false_eq_true, Nat.add_zero, Nat.zero_add, ne_eq, not_false_eq_true, not_true_eq_false, Nat.not_lt_zero, Nat.add_left_cancel_iff, Nat.add_right_cancel_iff, eq_self, upd_s, pk_sub, nI_pm, Nat.add_sub_cancel, List.length_cons, List.length_nil, Nat.add_eq_zero_iff, Nat.succ_ne_zero, and_false, false_and, r1, T.1.1, show (tP t ≤ i) = False from eq_false (by omega), bit_s, e2]
    have skip : canW t y v i = false → wpO (kk (v, oI (lstW (canW t y v) (cmN t ex y d) (fun p => far t p d) i), nI (i + 1), w)) (fun r => r = (oI (lstW (canW t y v) (cmN t ex y d) (fun p => far t p d) (tP t)), w)) := fun hc => hkk hlt _ (by rw [lstW_s1 hc])
    by_cases hz : bN v i = 0
    · rw [if_pos hz]
      cases hc : canL t y i with
      | false =>
        simp (disch := omega) only [xB_s, xB2_s, xGet_s, xPut_s, xAld_s, xAst_s, xIf_t, xBool_s, l0, l1, l2, l3, l4, l5, l6, l7, l8, l9, l10, l11, l12, l13, l15, l16, l17, l19, l20, l25, l27, l30, l31, l32, l33, l39, l40, l60, l61, l99, l100, l120, l256, l999, l1999, l99999, lm, nI_add, pk_mul, nI_leI, nI_ltI, nI_eq, wuS_1, wuS_2, wuA_1, wuA_21, wuA_22, nI_m1, m1_nI, nIlt_m1, m1lt_nI, Nat.reduceEqDiff, Nat.reduceAdd, Nat.reduceMul, Nat.reduceSub, Nat.reduceLT, Nat.reduceLeDiff, reduceIte, if_true, if_false, Bool.false_eq_true, Nat.add_zero, Nat.zero_add, ne_eq, not_false_eq_true, not_true_eq_false, Nat.not_lt_zero, Nat.add_left_cancel_iff, Nat.add_right_cancel_iff, eq_self, upd_s, pk_sub, nI_pm, Nat.add_sub_cancel, List.length_cons, List.length_nil, Nat.add_eq_zero_iff, Nat.succ_ne_zero, and_false, false_and, Bool.toNat_false]
        exact skip (by unfold canW; rw [hc, Bool.and_false])
      | true =>
        have hcw : canW t y v i = true := by unfold canW; rw [hc, hz]; rfl
        have hcm : cmB t y i = true := by unfold canL at hc; exact (Bool.and_eq_true_iff.mp hc).1
        have ei := h35 i hlt
        rw [cam_t hcm] at ei
        simp (disch := omega) only [xB_s, xB2_s, xGet_s, xPut_s, xAld_s, xAst_s, xIf_t, xBool_s, l0, l1, l2, l3, l4, l5, l6, l7, l8, l9, l10, l11, l12, l13, l15, l16, l17, l19, l20, l25, l27, l30, l31, l32, l33, l39, l40, l60, l61, l99, l100, l120, l256, l999, l1999, l99999, lm, nI_add, pk_mul, nI_leI, nI_ltI, nI_eq, wuS_1, wuS_2, wuA_1, wuA_21, wuA_22, nI_m1, m1_nI, nIlt_m1, m1lt_nI, Nat.reduceEqDiff, Nat.reduceAdd, Nat.reduceMul, Nat.reduceSub, Nat.reduceLT, Nat.reduceLeDiff, reduceIte, if_true, if_false, Bool.false_eq_true, Nat.add_zero, Nat.zero_add, ne_eq, not_false_eq_true, not_true_eq_false, Nat.not_lt_zero, Nat.add_left_cancel_iff, Nat.add_right_cancel_iff, eq_self, upd_s, pk_sub, nI_pm, Nat.add_sub_cancel, List.length_cons, List.length_nil, Nat.add_eq_zero_iff, Nat.succ_ne_zero, and_false, false_and, Bool.toNat_true]
        cases hl : lstW (canW t y v) (cmN t ex y d) (fun p => far t p d) i with
        | none =>
          simp (disch := omega) only [xB_s, xB2_s, xGet_s, xPut_s, xAld_s, xAst_s, xIf_t, xBool_s, l0, l1, l2, l3, l4, l5, l6, l7, l8, l9, l10, l11, l12, l13, l15, l16, l17, l19, l20, l25, l27, l30, l31, l32, l33, l39, l40, l60, l61, l99, l100, l120, l256, l999, l1999, l99999, lm, nI_add, pk_mul, nI_leI, nI_ltI, nI_eq, wuS_1, wuS_2, wuA_1, wuA_21, wuA_22, nI_m1, m1_nI, nIlt_m1, m1lt_nI, Nat.reduceEqDiff, Nat.reduceAdd, Nat.reduceMul, Nat.reduceSub, Nat.reduceLT, Nat.reduceLeDiff, reduceIte, if_true, if_false, Bool.false_eq_true, Nat.add_zero, Nat.zero_add, ne_eq, not_false_eq_true, not_true_eq_false, Nat.not_lt_zero, Nat.add_left_cancel_iff, Nat.add_right_cancel_iff, eq_self, upd_s, pk_sub, nI_pm, Nat.add_sub_cancel, List.length_cons, List.length_nil, Nat.add_eq_zero_iff, Nat.succ_ne_zero, and_false, false_and, oI_n]
          exact hkk hlt _ (by rw [lstW_s2 hcw hl]; rfl)
        | some q =>
          have hq := lstW_lt hl
          have hql : q < tP t := by omega
          have hqc : cmB t y q = true := by
            have h2 := hq.2
            unfold canW canL at h2
            exact (Bool.and_eq_true_iff.mp (Bool.and_eq_true_iff.mp h2).2).1
          have eq := h35 q hql
          rw [cam_t hqc] at eq
          have hnq := hN q hql
          have el := x_leads (o := o) ho hlt hql (h36 i hlt) (h36 q hql)
          simp (disch := omega) only [xB_s, xB2_s, xGet_s, xPut_s, xAld_s, xAst_s, xIf_t, xBool_s, l0, l1, l2, l3, l4, l5, l6, l7, l8, l9, l10, l11, l12, l13, l15, l16, l17, l19, l20, l25, l27, l30, l31, l32, l33, l39, l40, l60, l61, l99, l100, l120, l256, l999, l1999, l99999, lm, nI_add, pk_mul, nI_leI, nI_ltI, nI_eq, wuS_1, wuS_2, wuA_1, wuA_21, wuA_22, nI_m1, m1_nI, nIlt_m1, m1lt_nI, Nat.reduceEqDiff, Nat.reduceAdd, Nat.reduceMul, Nat.reduceSub, Nat.reduceLT, Nat.reduceLeDiff, reduceIte, if_true, if_false, Bool.false_eq_true, Nat.add_zero, Nat.zero_add, ne_eq, not_false_eq_true, not_true_eq_false, Nat.not_lt_zero, Nat.add_left_cancel_iff, Nat.add_right_cancel_iff, eq_self, upd_s, pk_sub, nI_pm, Nat.add_sub_cancel, List.length_cons, List.length_nil, Nat.add_eq_zero_iff, Nat.succ_ne_zero, and_false, false_and, oI_s, ei, eq, el]
          have st := lstW_s3 hcw hl
          unfold ltr at st
          by_cases g1 : cmN t ex y d q < cmN t ex y d i
          · rw [if_pos g1]
            exact hkk hlt _ (by rw [st]; simp [g1]; rfl)
          · rw [if_neg g1]
            by_cases g2 : cmN t ex y d i = cmN t ex y d q
            · rw [if_pos g2]
              cases g3 : (decide (far t i d < far t q d) || (decide (far t i d = far t q d) && decide (i < q))) with
              | true =>
                simp (disch := omega) only [xB_s, xB2_s, xGet_s, xPut_s, xAld_s, xAst_s, xIf_t, xBool_s, l0, l1, l2, l3, l4, l5, l6, l7, l8, l9, l10, l11, l12, l13, l15, l16, l17, l19, l20, l25, l27, l30, l31, l32, l33, l39, l40, l60, l61, l99, l100, l120, l256, l999, l1999, l99999, lm, nI_add, pk_mul, nI_leI, nI_ltI, nI_eq, wuS_1, wuS_2, wuA_1, wuA_21, wuA_22, nI_m1, m1_nI, nIlt_m1, m1lt_nI, Nat.reduceEqDiff, Nat.reduceAdd, Nat.reduceMul, Nat.reduceSub, Nat.reduceLT, Nat.reduceLeDiff, reduceIte, if_true, if_false, Bool.false_eq_true, Nat.add_zero, Nat.zero_add, ne_eq, not_false_eq_true, not_true_eq_false, Nat.not_lt_zero, Nat.add_left_cancel_iff, Nat.add_right_cancel_iff, eq_self, upd_s, pk_sub, nI_pm, Nat.add_sub_cancel, List.length_cons, List.length_nil, Nat.add_eq_zero_iff, Nat.succ_ne_zero, and_false, false_and, Bool.toNat_true]
                refine hkk hlt _ ?_
                rw [st, g3, decide_eq_true g2, decide_eq_false g1]; rfl
              | false =>
                simp (disch := omega) only [xB_s, xB2_s, xGet_s, xPut_s, xAld_s, xAst_s, xIf_t, xBool_s, l0, l1, l2, l3, l4, l5, l6, l7, l8, l9, l10, l11, l12, l13, l15, l16, l17, l19, l20, l25, l27, l30, l31, l32, l33, l39, l40, l60, l61, l99, l100, l120, l256, l999, l1999, l99999, lm, nI_add, pk_mul, nI_leI, nI_ltI, nI_eq, wuS_1, wuS_2, wuA_1, wuA_21, wuA_22, nI_m1, m1_nI, nIlt_m1, m1lt_nI, Nat.reduceEqDiff, Nat.reduceAdd, Nat.reduceMul, Nat.reduceSub, Nat.reduceLT, Nat.reduceLeDiff, reduceIte, if_true, if_false, Bool.false_eq_true, Nat.add_zero, Nat.zero_add, ne_eq, not_false_eq_true, not_true_eq_false, Nat.not_lt_zero, Nat.add_left_cancel_iff, Nat.add_right_cancel_iff, eq_self, upd_s, pk_sub, nI_pm, Nat.add_sub_cancel, List.length_cons, List.length_nil, Nat.add_eq_zero_iff, Nat.succ_ne_zero, and_false, false_and, Bool.toNat_false]
                refine hkk hlt _ ?_
                rw [st, g3, decide_eq_true g2, decide_eq_false g1]; rfl
            · rw [if_neg g2]
              refine hkk hlt _ ?_
              rw [st, decide_eq_false g2, decide_eq_false g1]; rfl
    · rw [if_neg hz]
      exact skip (by unfold canW; rw [decide_eq_false hz]; rfl)
  · have e : i = tP t := by omega
    subst e
    simp (disch := omega) only [xB_s, xB2_s, xGet_s, xPut_s, xAld_s, xAst_s, xIf_t, xBool_s, l0, l1, l2, l3, l4, l5, l6, l7, l8, l9, l10, l11, l12, l13, l15, l16, l17, l19, l20, l25, l27, l30, l31, l32, l33, l39, l40, l60, l61, l99, l100, l120, l256, l999, l1999, l99999, lm, nI_add, pk_mul, nI_leI, nI_ltI, nI_eq, wuS_1, wuS_2, wuA_1, wuA_21, wuA_22, nI_m1, m1_nI, nIlt_m1, m1lt_nI, Nat.reduceEqDiff, Nat.reduceAdd, Nat.reduceMul, Nat.reduceSub, Nat.reduceLT, Nat.reduceLeDiff, reduceIte, if_true, if_false, Bool.false_eq_true, Nat.add_zero, Nat.zero_add, ne_eq, not_false_eq_true, not_true_eq_false, Nat.not_lt_zero, Nat.add_left_cancel_iff, Nat.add_right_cancel_iff, eq_self, upd_s, pk_sub, nI_pm, Nat.add_sub_cancel, List.length_cons, List.length_nil, Nat.add_eq_zero_iff, Nat.succ_ne_zero, and_false, false_and, r1, T.1.1, Nat.le_refl]
    exact wp_some rfl
end
