/-! ===== the row in the reference's array from b on ===== -/
def YM (y : Yw) (A : Nat → Int32) (b : Nat) : Prop := A b = nI (yD y) ∧ A (b + 1) = oI (yR y) ∧ A (b + 2) = yI y ∧ (∀ p, p < 8 → A (b + 3 + p) = nI (yH y p)) ∧ (∀ p, p < 8 → A (b + 11 + p) = nI (yL y p)) ∧ (∀ p, p < 8 → A (b + 19 + p) = nI (yU y p)) ∧ ∀ d, d < 6 → A (b + 27 + d) = nI (yE y d)
theorem YM.day {y : Yw} {A : Nat → Int32} {b v : Nat} (h : YM y A b) : YM ((v, yR y, yI y), y.2) (upd A b (nI v)) b := by
  obtain ⟨h1, h2, h3, h4, h5, h6, h7⟩ := h
  refine ⟨by rw [upd_s, if_pos rfl], by rw [upd_s, if_neg (by omega)]; exact h2, by rw [upd_s, if_neg (by omega)]; exact h3, fun p hp => by rw [upd_s, if_neg (by omega)]; exact h4 p hp, fun p hp => by rw [upd_s, if_neg (by omega)]; exact h5 p hp, fun p hp => by rw [upd_s, if_neg (by omega)]; exact h6 p hp, fun p hp => by rw [upd_s, if_neg (by omega)]; exact h7 p hp⟩
theorem YM.ringer {y : Yw} {A : Nat → Int32} {b : Nat} {r : Option Nat} (h : YM y A b) : YM ((yD y, r, yI y), y.2) (upd A (b + 1) (oI r)) b := by
  obtain ⟨h1, h2, h3, h4, h5, h6, h7⟩ := h
  refine ⟨by rw [upd_s, if_neg (by omega)]; exact h1, by rw [upd_s, if_pos rfl], by rw [upd_s, if_neg (by omega)]; exact h3, fun p hp => by rw [upd_s, if_neg (by omega)]; exact h4 p hp, fun p hp => by rw [upd_s, if_neg (by omega)]; exact h5 p hp, fun p hp => by rw [upd_s, if_neg (by omega)]; exact h6 p hp, fun p hp => by rw [upd_s, if_neg (by omega)]; exact h7 p hp⟩
theorem YM.ill {y : Yw} {A : Nat → Int32} {b : Nat} {v : Int32} (h : YM y A b) : YM ((yD y, yR y, v), y.2) (upd A (b + 2) v) b := by
  obtain ⟨h1, h2, h3, h4, h5, h6, h7⟩ := h
  refine ⟨by rw [upd_s, if_neg (by omega)]; exact h1, by rw [upd_s, if_neg (by omega)]; exact h2, by rw [upd_s, if_pos rfl], fun p hp => by rw [upd_s, if_neg (by omega)]; exact h4 p hp, fun p hp => by rw [upd_s, if_neg (by omega)]; exact h5 p hp, fun p hp => by rw [upd_s, if_neg (by omega)]; exact h6 p hp, fun p hp => by rw [upd_s, if_neg (by omega)]; exact h7 p hp⟩
theorem YM.haste {y : Yw} {A : Nat → Int32} {b k v : Nat} (hk : k < 8) (h : YM y A b) : YM (y.1, fu (yH y) k v, yL y, yU y, yE y) (upd A (b + 3 + k) (nI v)) b := by
  obtain ⟨h1, h2, h3, h4, h5, h6, h7⟩ := h
  refine ⟨by rw [upd_s, if_neg (by omega)]; exact h1, by rw [upd_s, if_neg (by omega)]; exact h2, by rw [upd_s, if_neg (by omega)]; exact h3, ?_, fun p hp => by rw [upd_s, if_neg (by omega)]; exact h5 p hp, fun p hp => by rw [upd_s, if_neg (by omega)]; exact h6 p hp, fun p hp => by rw [upd_s, if_neg (by omega)]; exact h7 p hp⟩
  intro p hp
  show upd A (b + 3 + k) (nI v) (b + 3 + p) = nI (fu (yH y) k v p)
  rw [upd_s, fu_s]
  by_cases e : p = k
  · subst e; rw [if_pos rfl, if_pos rfl]
  · rw [if_neg (by omega), if_neg e]; exact h4 p hp
theorem YM.late {y : Yw} {A : Nat → Int32} {b k v : Nat} (hk : k < 8) (h : YM y A b) : YM (y.1, yH y, fu (yL y) k v, yU y, yE y) (upd A (b + 11 + k) (nI v)) b := by
  obtain ⟨h1, h2, h3, h4, h5, h6, h7⟩ := h
  refine ⟨by rw [upd_s, if_neg (by omega)]; exact h1, by rw [upd_s, if_neg (by omega)]; exact h2, by rw [upd_s, if_neg (by omega)]; exact h3, fun p hp => by rw [upd_s, if_neg (by omega)]; exact h4 p hp, ?_, fun p hp => by rw [upd_s, if_neg (by omega)]; exact h6 p hp, fun p hp => by rw [upd_s, if_neg (by omega)]; exact h7 p hp⟩
  intro p hp
  show upd A (b + 11 + k) (nI v) (b + 11 + p) = nI (fu (yL y) k v p)
  rw [upd_s, fu_s]
  by_cases e : p = k
  · subst e; rw [if_pos rfl, if_pos rfl]
  · rw [if_neg (by omega), if_neg e]; exact h5 p hp
theorem YM.rung {y : Yw} {A : Nat → Int32} {b k v : Nat} (hk : k < 8) (h : YM y A b) : YM (y.1, yH y, yL y, fu (yU y) k v, yE y) (upd A (b + 19 + k) (nI v)) b := by
  obtain ⟨h1, h2, h3, h4, h5, h6, h7⟩ := h
  refine ⟨by rw [upd_s, if_neg (by omega)]; exact h1, by rw [upd_s, if_neg (by omega)]; exact h2, by rw [upd_s, if_neg (by omega)]; exact h3, fun p hp => by rw [upd_s, if_neg (by omega)]; exact h4 p hp, fun p hp => by rw [upd_s, if_neg (by omega)]; exact h5 p hp, ?_, fun p hp => by rw [upd_s, if_neg (by omega)]; exact h7 p hp⟩
  intro p hp
  show upd A (b + 19 + k) (nI v) (b + 19 + p) = nI (fu (yU y) k v p)
  rw [upd_s, fu_s]
  by_cases e : p = k
  · subst e; rw [if_pos rfl, if_pos rfl]
  · rw [if_neg (by omega), if_neg e]; exact h6 p hp
theorem YM.due {y : Yw} {A : Nat → Int32} {b k v : Nat} (hk : k < 6) (h : YM y A b) : YM (y.1, yH y, yL y, yU y, fu (yE y) k v) (upd A (b + 27 + k) (nI v)) b := by
  obtain ⟨h1, h2, h3, h4, h5, h6, h7⟩ := h
  refine ⟨by rw [upd_s, if_neg (by omega)]; exact h1, by rw [upd_s, if_neg (by omega)]; exact h2, by rw [upd_s, if_neg (by omega)]; exact h3, fun p hp => by rw [upd_s, if_neg (by omega)]; exact h4 p hp, fun p hp => by rw [upd_s, if_neg (by omega)]; exact h5 p hp, fun p hp => by rw [upd_s, if_neg (by omega)]; exact h6 p hp, ?_⟩
  intro p hp
  show upd A (b + 27 + k) (nI v) (b + 27 + p) = nI (fu (yE y) k v p)
  rw [upd_s, fu_s]
  by_cases e : p = k
  · subst e; rw [if_pos rfl, if_pos rfl]
  · rw [if_neg (by omega), if_neg e]; exact h7 p hp
theorem YM.of {y : Yw} {A A' : Nat → Int32} {b : Nat} (h : YM y A b) (e : ∀ k, b ≤ k → k < b + 33 → A' k = A k) : YM y A' b := by
  obtain ⟨h1, h2, h3, h4, h5, h6, h7⟩ := h
  exact ⟨(e _ (by omega) (by omega)).trans h1, (e _ (by omega) (by omega)).trans h2, (e _ (by omega) (by omega)).trans h3, fun p hp => (e _ (by omega) (by omega)).trans (h4 p hp), fun p hp => (e _ (by omega) (by omega)).trans (h5 p hp), fun p hp => (e _ (by omega) (by omega)).trans (h6 p hp), fun p hp => (e _ (by omega) (by omega)).trans (h7 p hp)⟩
/-- a row of the reference copied elsewhere -/
theorem YM.cp {y : Yw} {A A' : Nat → Int32} {b b' : Nat} (h : YM y A b) (e : ∀ k, k < 33 → A' (b' + k) = A (b + k)) : YM y A' b' := by
  obtain ⟨h1, h2, h3, h4, h5, h6, h7⟩ := h
  refine ⟨(e 0 (by omega)).trans h1, (e 1 (by omega)).trans h2, (e 2 (by omega)).trans h3, fun p hp => ?_, fun p hp => ?_, fun p hp => ?_, fun p hp => ?_⟩
  · rw [← h4 p hp, Nat.add_assoc, Nat.add_assoc]; exact e _ (by omega)
  · rw [← h5 p hp, Nat.add_assoc, Nat.add_assoc]; exact e _ (by omega)
  · rw [← h6 p hp, Nat.add_assoc, Nat.add_assoc]; exact e _ (by omega)
  · rw [← h7 p hp, Nat.add_assoc, Nat.add_assoc]; exact e _ (by omega)
/-! ===== the town in the reference ===== -/
def RM (r : Option (List Op)) (v : Int32) (A : Nat → Int32) : Prop := match r with
  | none => v = mI
  | some s => ∃ a, v = nI a ∧ cdA A a s
def TM (t : Tn) (w : wS) : Prop := w.1 1 = nI (tP t) ∧ w.1 2 = nI (tD t) ∧ w.1 3 = nI (tC t) ∧ (∀ p, p < tP t → w.2.1 1 p = nI (tK t p)) ∧ (∀ p, p < tP t → w.2.1 2 p = nI (tH t p)) ∧ (∀ p, p < tP t → w.2.1 3 p = nI (tO t p)) ∧ (∀ d, d < tD t → w.2.1 4 d = nI (tW t d)) ∧ RM (tR t) (w.1 4) (w.2.1 5) ∧ RM (tS t) (w.1 5) (w.2.1 5)
theorem TM.of {t : Tn} {w w' : wS} (h : TM t w) (h1 : ∀ k, k < 6 → w'.1 k = w.1 k) (h2 : ∀ c, c < 6 → w'.2.1 c = w.2.1 c) : TM t w' := by
  unfold TM
  rw [h1 1 (by omega), h1 2 (by omega), h1 3 (by omega), h1 4 (by omega), h1 5 (by omega), h2 1 (by omega), h2 2 (by omega), h2 3 (by omega), h2 4 (by omega), h2 5 (by omega)]
  exact h
theorem TM.fr {t : Tn} {w w' : wS} {K A : List Nat} (h : TM t w) (f : Fr K A w w') (hK : ∀ k, k < 6 → k ∉ K) (hA : ∀ k, k < 6 → k ∉ A) : TM t w' := h.of (fun k hk => f.1 k (hK k hk)) (fun k hk => f.2.1 k (hA k hk))
/-- what is added to the minutes of those who come -/
def EM (ex : Ex) (w : wS) : Prop := ∃ sn by' : Nat, w.1 52 = nI sn ∧ w.1 55 = nI by' ∧ sn ≤ 15 ∧ by' ≤ 99 ∧ ∀ d p, p < 8 → d < 6 → ex d p = sn + if nI p = w.1 53 ∧ nI d = w.1 54 then by' else 0
theorem EM.of {ex : Ex} {w w' : wS} (h : EM ex w) (h1 : ∀ k, 52 ≤ k → k < 56 → w'.1 k = w.1 k) : EM ex w' := by
  unfold EM
  rw [h1 52 (by omega) (by omega), h1 53 (by omega) (by omega), h1 54 (by omega) (by omega), h1 55 (by omega) (by omega)]
  exact h
theorem EM.le {ex : Ex} {w : wS} (h : EM ex w) {d p : Nat} (hp : p < 8) (hd : d < 6) : ex d p ≤ 114 := by
  obtain ⟨sn, by', h1, h2, h3, h4, h5⟩ := h
  rw [h5 d p hp hd]
  split <;> omega
theorem m_farOf {t : Tn} {w : wS} {p d : Nat} (T : TM t w) (ho : tOk t) (hp : p < tP t) (hd : d < tD t) : L_X10_farOf (nI p) (nI d) w = some (nI (far t p d), w) := by
  obtain ⟨t1, t2, t3, t4, t5, t6, t7, t8, t9⟩ := T
  have b1 := ho.1
  have b2 := ho.2.1
  have b3 := ho.2.2.2.2.2.1 p
  have b4 := ho.2.2.2.2.2.2.1 d
  unfold L_X10_farOf far
  simp (disch := omega) only [xB_s, xB2_s, xGet_s, xPut_s, xAld_s, xAst_s, xIf_t, xBool_s, l0, l1, l2, l3, l4, l5, l6, l7, l8, l9, l10, l11, l12, l13, l15, l16, l17, l19, l20, l25, l27, l30, l31, l32, l33, l39, l40, l60, l61, l99, l100, l120, l256, l999, l1999, l99999, lm, nI_add, pk_mul, nI_leI, nI_ltI, nI_eq, wuS_1, wuS_2, wuA_1, wuA_21, wuA_22, nI_m1, m1_nI, nIlt_m1, m1lt_nI, Nat.reduceEqDiff, Nat.reduceAdd, Nat.reduceMul, Nat.reduceSub, Nat.reduceLT, Nat.reduceLeDiff, reduceIte, if_true, if_false, Bool.false_eq_true, Nat.add_zero, Nat.zero_add, ne_eq, not_false_eq_true, not_true_eq_false, Nat.not_lt_zero, Nat.add_left_cancel_iff, Nat.add_right_cancel_iff, eq_self, upd_s, pk_sub, nI_pm, Nat.add_sub_cancel, List.length_cons, List.length_nil, Nat.add_eq_zero_iff, Nat.succ_ne_zero, and_false, false_and, t6 p hp, t7 d hd, off_n]
theorem m_wayOf {t : Tn} {y : Yw} {w : wS} {b p d : Nat} (T : TM t w) (Y : YM y (w.2.1 16) b) (ho : tOk t) (hy : yOk t y) (hb : b ≤ 33) (hp : p < tP t) (hd : d < tD t) : L_X10_wayOf (nI b) (nI p) (nI d) w = some (nI (way t y p d), w) := by
  have e := m_farOf T ho hp hd
  obtain ⟨t1, t2, t3, t4, t5, t6, t7, t8, t9⟩ := T
  obtain ⟨y1, y2, y3, y4, y5, y6, y7⟩ := Y
  have b1 := ho.1
  have b5 := ho.2.2.2.2.1 p
  have b6 := hy.2.2.1 p
  have b7 := (way_le ho y p d).2
  unfold L_X10_wayOf
  simp (disch := omega) only [xB_s, xB2_s, xGet_s, xPut_s, xAld_s, xAst_s, xIf_t, xBool_s, l0, l1, l2, l3, l4, l5, l6, l7, l8, l9, l10, l11, l12, l13, l15, l16, l17, l19, l20, l25, l27, l30, l31, l32, l33, l39, l40, l60, l61, l99, l100, l120, l256, l999, l1999, l99999, lm, nI_add, pk_mul, nI_leI, nI_ltI, nI_eq, wuS_1, wuS_2, wuA_1, wuA_21, wuA_22, nI_m1, m1_nI, nIlt_m1, m1lt_nI, Nat.reduceEqDiff, Nat.reduceAdd, Nat.reduceMul, Nat.reduceSub, Nat.reduceLT, Nat.reduceLeDiff, reduceIte, if_true, if_false, Bool.false_eq_true, Nat.add_zero, Nat.zero_add, ne_eq, not_false_eq_true, not_true_eq_false, Nat.not_lt_zero, Nat.add_left_cancel_iff, Nat.add_right_cancel_iff, eq_self, upd_s, pk_sub, nI_pm, Nat.add_sub_cancel, List.length_cons, List.length_nil, Nat.add_eq_zero_iff, Nat.succ_ne_zero, and_false, false_and, t3, e, t5 p hp, y4 p (Nat.lt_of_lt_of_le hp b1)]
  rw [bounded_sub (by omega) (by omega) (by omega)]
  simp (disch := omega) only [xB_s, xB2_s, xGet_s, xPut_s, xAld_s, xAst_s, xIf_t, xBool_s, l0, l1, l2, l3, l4, l5, l6, l7, l8, l9, l10, l11, l12, l13, l15, l16, l17, l19, l20, l25, l27, l30, l31, l32, l33, l39, l40, l60, l61, l99, l100, l120, l256, l999, l1999, l99999, lm, nI_add, pk_mul, nI_leI, nI_ltI, nI_eq, wuS_1, wuS_2, wuA_1, wuA_21, wuA_22, nI_m1, m1_nI, nIlt_m1, m1lt_nI, Nat.reduceEqDiff, Nat.reduceAdd, Nat.reduceMul, Nat.reduceSub, Nat.reduceLT, Nat.reduceLeDiff, reduceIte, if_true, if_false, Bool.false_eq_true, Nat.add_zero, Nat.zero_add, ne_eq, not_false_eq_true, not_true_eq_false, Nat.not_lt_zero, Nat.add_left_cancel_iff, Nat.add_right_cancel_iff, eq_self, upd_s, pk_sub, nI_pm, Nat.add_sub_cancel, List.length_cons, List.length_nil, Nat.add_eq_zero_iff, Nat.succ_ne_zero, and_false, false_and]
  unfold way
  rw [Nat.min_eq_left (by omega)]
theorem m_doesCome {t : Tn} {y : Yw} {w : wS} {b p : Nat} (T : TM t w) (Y : w.2.1 16 (b + 2) = yI y) (ho : tOk t) (hb : b ≤ 33) (hp : p < tP t) : L_X10_doesCome (nI b) (nI p) w = some (nI (cmB t y p).toNat, w) := by
  obtain ⟨t1, t2, t3, t4, t5, t6, t7, t8, t9⟩ := T
  have b1 := ho.1
  have b2 := ho.2.2.2.1 p
  have b3 := bN_le (yI y) p
  unfold L_X10_doesCome cmB
  simp (disch := omega) only [xB_s, xB2_s, xGet_s, xPut_s, xAld_s, xAst_s, xIf_t, xBool_s, l0, l1, l2, l3, l4, l5, l6, l7, l8, l9, l10, l11, l12, l13, l15, l16, l17, l19, l20, l25, l27, l30, l31, l32, l33, l39, l40, l60, l61, l99, l100, l120, l256, l999, l1999, l99999, lm, nI_add, pk_mul, nI_leI, nI_ltI, nI_eq, wuS_1, wuS_2, wuA_1, wuA_21, wuA_22, nI_m1, m1_nI, nIlt_m1, m1lt_nI, Nat.reduceEqDiff, Nat.reduceAdd, Nat.reduceMul, Nat.reduceSub, Nat.reduceLT, Nat.reduceLeDiff, reduceIte, if_true, if_false, Bool.false_eq_true, Nat.add_zero, Nat.zero_add, ne_eq, not_false_eq_true, not_true_eq_false, Nat.not_lt_zero, Nat.add_left_cancel_iff, Nat.add_right_cancel_iff, eq_self, upd_s, pk_sub, nI_pm, Nat.add_sub_cancel, List.length_cons, List.length_nil, Nat.add_eq_zero_iff, Nat.succ_ne_zero, and_false, false_and, t4 p hp, Y, bit_s, J_X10_doesCome_30, J_X10_doesCome_29]
  by_cases h : tK t p = 2
  · rw [if_pos h]; simp [h]
  · rw [if_neg h]
    by_cases h2 : bN (yI y) p = 0
    · rw [if_pos h2]; simp [h, h2]
    · rw [if_neg h2]; simp [h2]
theorem m_asks {t : Tn} {y : Yw} {w : wS} {b p d a : Nat} {s : List Op} (T : TM t w) (Y : YM y (w.2.1 16) b) (ho : tOk t) (hb : b ≤ 33) (hp : p < tP t) (hd : d < tD t) (hc : cdA (w.2.1 5) a s) (hw : wfR 0 s) : wpO (L_X10_asks (nI a) (nI b) (nI p) (nI d) w) (fun r => r.1 = evR (val t y p d) s [] ∧ Fr [] [18, 19] w r.2) := by
  obtain ⟨t1, t2, t3, t4, t5, t6, t7, t8, t9⟩ := T
  obtain ⟨y1, y2, y3, y4, y5, y6, y7⟩ := Y
  have b1 := ho.1
  have b2 := ho.2.1
  have b3 := ho.2.2.2.2.2.1 p
  have b4 := ho.2.2.2.2.2.2.1 d
  have hp8 : p < 8 := Nat.lt_of_lt_of_le hp b1
  unfold L_X10_asks L_X10_farOf
  simp (disch := omega) only [xB_s, xB2_s, xGet_s, xPut_s, xAld_s, xAst_s, xIf_t, xBool_s, l0, l1, l2, l3, l4, l5, l6, l7, l8, l9, l10, l11, l12, l13, l15, l16, l17, l19, l20, l25, l27, l30, l31, l32, l33, l39, l40, l60, l61, l99, l100, l120, l256, l999, l1999, l99999, lm, nI_add, pk_mul, nI_leI, nI_ltI, nI_eq, wuS_1, wuS_2, wuA_1, wuA_21, wuA_22, nI_m1, m1_nI, nIlt_m1, m1lt_nI, Nat.reduceEqDiff, Nat.reduceAdd, Nat.reduceMul, Nat.reduceSub, Nat.reduceLT, Nat.reduceLeDiff, reduceIte, if_true, if_false, Bool.false_eq_true, Nat.add_zero, Nat.zero_add, ne_eq, not_false_eq_true, not_true_eq_false, Nat.not_lt_zero, Nat.add_left_cancel_iff, Nat.add_right_cancel_iff, eq_self, upd_s, pk_sub, nI_pm, Nat.add_sub_cancel, List.length_cons, List.length_nil, Nat.add_eq_zero_iff, Nat.succ_ne_zero, and_false, false_and, y1, y4 p hp8, y5 p hp8, y6 p hp8, t5 p hp, t6 p hp, t7 d hd, off_n]
  refine wp_B2 (m_reckons (vs := val t y p d) (s := s) ?_ hw ?_) ?_
  · simp (disch := omega) only [xB_s, xB2_s, xGet_s, xPut_s, xAld_s, xAst_s, xIf_t, xBool_s, l0, l1, l2, l3, l4, l5, l6, l7, l8, l9, l10, l11, l12, l13, l15, l16, l17, l19, l20, l25, l27, l30, l31, l32, l33, l39, l40, l60, l61, l99, l100, l120, l256, l999, l1999, l99999, lm, nI_add, pk_mul, nI_leI, nI_ltI, nI_eq, wuS_1, wuS_2, wuA_1, wuA_21, wuA_22, nI_m1, m1_nI, nIlt_m1, m1lt_nI, Nat.reduceEqDiff, Nat.reduceAdd, Nat.reduceMul, Nat.reduceSub, Nat.reduceLT, Nat.reduceLeDiff, reduceIte, if_true, if_false, Bool.false_eq_true, Nat.add_zero, Nat.zero_add, ne_eq, not_false_eq_true, not_true_eq_false, Nat.not_lt_zero, Nat.add_left_cancel_iff, Nat.add_right_cancel_iff, eq_self, upd_s, pk_sub, nI_pm, Nat.add_sub_cancel, List.length_cons, List.length_nil, Nat.add_eq_zero_iff, Nat.succ_ne_zero, and_false, false_and]
    exact hc
  · intro k hk
    have h7 : k = 0 ∨ k = 1 ∨ k = 2 ∨ k = 3 ∨ k = 4 ∨ k = 5 ∨ k = 6 := by omega
    rcases h7 with rfl | rfl | rfl | rfl | rfl | rfl | rfl <;> simp (disch := omega) only [xB_s, xB2_s, xGet_s, xPut_s, xAld_s, xAst_s, xIf_t, xBool_s, l0, l1, l2, l3, l4, l5, l6, l7, l8, l9, l10, l11, l12, l13, l15, l16, l17, l19, l20, l25, l27, l30, l31, l32, l33, l39, l40, l60, l61, l99, l100, l120, l256, l999, l1999, l99999, lm, nI_add, pk_mul, nI_leI, nI_ltI, nI_eq, wuS_1, wuS_2, wuA_1, wuA_21, wuA_22, nI_m1, m1_nI, nIlt_m1, m1lt_nI, Nat.reduceEqDiff, Nat.reduceAdd, Nat.reduceMul, Nat.reduceSub, Nat.reduceLT, Nat.reduceLeDiff, reduceIte, if_true, if_false, Bool.false_eq_true, Nat.add_zero, Nat.zero_add, ne_eq, not_false_eq_true, not_true_eq_false, Nat.not_lt_zero, Nat.add_left_cancel_iff, Nat.add_right_cancel_iff, eq_self, upd_s, pk_sub, nI_pm, Nat.add_sub_cancel, List.length_cons, List.length_nil, Nat.add_eq_zero_iff, Nat.succ_ne_zero, and_false, false_and, val, far]
  · intro v w' h
    refine wp_some ⟨h.1, Fr.trans ?_ (h.2.mono (by simp) (by simp))⟩
    exact (((((((Fr.refl).A (by decide)).A (by decide)).A (by decide)).A (by decide)).A (by decide)).A (by decide)).A (by decide)
