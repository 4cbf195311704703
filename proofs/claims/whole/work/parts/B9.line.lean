section
/-! ===== the draft of a town, in the class and in the reference ===== -/
theorem xB2_B {α β γ δ : Type} (o : Option α) (k : α → Option (β × γ)) (f : β → γ → Option δ) : xB2 (xB o k) f = xB o fun a => xB2 (k a) f := by cases o <;> rfl
theorem xB2_B2 {α α' β γ δ : Type} (o : Option (α × α')) (k : α → α' → Option (β × γ)) (f : β → γ → Option δ) : xB2 (xB2 o k) f = xB2 o fun a a' => xB2 (k a a') f := by cases o <;> rfl
theorem xB_B2 {α α' β δ : Type} (o : Option (α × α')) (k : α → α' → Option β) (f : β → Option δ) : xB (xB2 o k) f = xB2 o fun a a' => xB (k a a') f := by cases o <;> rfl
theorem xB_B {α β δ : Type} (o : Option α) (k : α → Option β) (f : β → Option δ) : xB (xB o k) f = xB o fun a => xB (k a) f := by cases o <;> rfl
abbrev Df : Type := Tn × (Nat → Nat) × (Nat → Nat) × Bool
def CMr (r : Option (List Op)) (v : Int32) (A : Nat → Int32) (m : Nat) : Prop := match r with
  | none => v = mI
  | some E => ∃ k, v = nI k ∧ coA A k (cML E ++ [0]) ∧ k + (cML E ++ [0]).length ≤ m
def DX (D : Df) (o : wO) (w : wS) : Prop := XB D.1 o w ∧ ((∀ p, p < tP D.1 → w.2.1 1002 p = nI (tH D.1 p)) ∧ (∀ p, p < 8 → w.2.1 1003 p = nI (D.2.1 p)) ∧ ∀ d, d < 6 → w.2.1 1005 d = nI (D.2.2.1 d)) ∧ (w.1 106 = nI D.2.2.2.toNat ∧ w.2.2.2.2 107 = .ref (oT o + 0) ∧ w.1 101 = nI 0) ∧ oOk o ∧ (tR D.1 = none → oR o = 0) ∧ (tS D.1 = none → oS o = 0)
def DM (D : Df) (m : Nat) (w : wS) : Prop := (w.1 24 = nI (tP D.1) ∧ w.1 25 = nI (tD D.1) ∧ w.1 26 = if D.2.2.2 = true then nI (tC D.1) else mI) ∧ ((∀ p, p < tP D.1 → w.2.1 8 p = nI (tK D.1 p)) ∧ (∀ p, p < tP D.1 → w.2.1 9 p = nI (tH D.1 p)) ∧ (∀ p, p < tP D.1 → w.2.1 10 p = nI (tO D.1 p)) ∧ (∀ d, d < tD D.1 → w.2.1 11 d = nI (tW D.1 d))) ∧ (w.2.1 12 0 = nI 0 ∧ w.2.1 12 1 = mI ∧ w.2.1 12 2 = nI 0 ∧ (∀ p, p < 8 → w.2.1 12 (3 + p) = nI (D.2.1 p)) ∧ (∀ k, 11 ≤ k → k < 27 → w.2.1 12 k = nI 0) ∧ ∀ d, d < 6 → w.2.1 12 (27 + d) = nI (D.2.2.1 d)) ∧ (CMr (tR D.1) (w.1 27) (w.2.1 13) m ∧ CMr (tS D.1) (w.1 28) (w.2.1 13) m) ∧ w.1 29 = nI m ∧ w.1 13 = nI 0
def DO (D : Df) (m s : Nat) : Prop := tOk D.1 ∧ (∀ p, D.2.1 p ≤ 60) ∧ (∀ d, D.2.2.1 d ≤ 999) ∧ (D.2.2.2 = false → tC D.1 = 2) ∧ 2 * m ≤ 3 * s
def LR (b : Nat → Nat) (n : Nat) (D : Df) (m s : Nat) (o : wO) (w v : wS) : Prop := (TX b n s w ∧ TMk b n s v) ∧ DX D o w ∧ DM D m v ∧ DO D m s
abbrev lXK : List Nat := [101, 102, 104, 105, 106, 202, 203, 204]
abbrev lMK : List Nat := [13, 14, 17, 18, 19, 20, 21, 22, 29, 31, 32, 24, 25, 26, 27, 28, 30]
abbrev lMA : List Nat := [13, 14, 15, 8, 9, 10, 11, 12]
/-- what reading leaves as it was, in the class -/
def XFr (w w' : wS) : Prop := (∀ k, k < 100000 → k ∉ lXK → w'.1 k = w.1 k) ∧ (∀ c, c < 1000 → c ≠ 4 → w'.2.1 c = w.2.1 c) ∧ w'.2.2.1 = w.2.2.1 ∧ w'.2.2.2.1 = w.2.2.2.1 ∧ ∀ k, k < 100000 → w'.2.2.2.2 k = w.2.2.2.2 k
theorem XFr.refl {w : wS} : XFr w w := ⟨fun _ _ _ => rfl, fun _ _ _ => rfl, rfl, rfl, fun _ _ => rfl⟩
theorem XFr.trans {w w' w'' : wS} (h : XFr w w') (h' : XFr w' w'') : XFr w w'' := ⟨fun k a b => (h'.1 k a b).trans (h.1 k a b), fun c a b => (h'.2.1 c a b).trans (h.2.1 c a b), h'.2.2.1.trans h.2.2.1, h'.2.2.2.1.trans h.2.2.2.1, fun k a => (h'.2.2.2.2 k a).trans (h.2.2.2.2 k a)⟩
theorem XFr.S {w w' : wS} {k : Nat} {v : Int32} (h : XFr w w') (hk : 100000 ≤ k ∨ k ∈ lXK) : XFr w (wuS w' k v) := ⟨fun j a b => by
    rw [wuS_1, if_neg (fun q => by subst q; rcases hk with q | q; · omega
                                   · exact b q)]
    exact h.1 j a b, h.2⟩
theorem XFr.A {w w' : wS} {c : Nat} {f : Nat → Int32} (h : XFr w w') (hc : 1000 ≤ c ∨ c = 4) : XFr w (wuA w' c f) := ⟨h.1, fun j a b => by
    rw [wuA_21, if_neg (by omega)]
    exact h.2.1 j a b, h.2.2⟩
theorem XFr.R {w w' : wS} {k : Nat} {v : Value} (h : XFr w w') (hk : 100000 ≤ k) : XFr w (wuR w' k v) := ⟨h.1, h.2.1, h.2.2.1, h.2.2.2.1, fun j a => by
    show (if j = k then v else w'.2.2.2.2 j) = _
    rw [if_neg (by omega)]
    exact h.2.2.2.2 j a⟩
theorem XFr.F {K A : List Nat} {w w' w'' : wS} (h : XFr w w') (h' : Fr K A w' w'') (hK : ∀ k, k ∈ K → k ∈ lXK) (hA : ∀ c, c ∈ A → c = 4) : XFr w w'' := h.trans ⟨fun k _ b => h'.1 k (fun q => b (hK k q)), fun c _ b => h'.2.1 c (fun q => b (hA c q)), by rw [h'.2.2], by rw [h'.2.2], fun k _ => by rw [h'.2.2]⟩
/-- a fault, told on both sides -/
def LF (w v : wS) : Prop := ∃ f : Nat × Nat, (f.1 ≠ 0 ∧ f.1 < 10) ∧ w.1 101 = nI f.1 ∧ w.1 102 = nI f.2 ∧ v.1 13 = nI f.1 ∧ v.1 14 = nI f.2
def LQ (b : Nat → Nat) (n s : Nat) (o : wO) (w v : wS) (r : Int32 × wO × wS) (v' : wS) : Prop := (XFr w r.2.2 ∧ FL lMK lMA v v') ∧ (oT r.2.1 = oT o ∧ oOk r.2.1) ∧ ((r.1 = nI 0 ∧ LF r.2.2 v') ∨ (r.1 = nI 1 ∧ ∃ D' m' s', LR b n D' m' s' r.2.1 r.2.2 v' ∧ s + 1 ≤ s'))
theorem DX.of {D : Df} {o : wO} {w w' : wS} (h : DX D o w) (h1 : w'.1 101 = nI 0) (h2 : ∀ k, k ∈ [106, 100006, 100007, 100008] → w'.1 k = w.1 k) (h3 : ∀ c, c ∈ [1001, 1002, 1003, 1004, 1005, 1006, 2001, 3001] → w'.2.1 c = w.2.1 c) (h4 : w'.2.2.2.2 = w.2.2.2.2) : DX D o w' := by
  unfold DX XB
  rw [h1, h2 106 (by decide), h2 100006 (by decide), h2 100007 (by decide), h2 100008 (by decide), h3 1001 (by decide), h3 1002 (by decide), h3 1003 (by decide), h3 1004 (by decide), h3 1005 (by decide), h3 1006 (by decide), h3 2001 (by decide), h3 3001 (by decide), h4]
  exact ⟨h.1, h.2.1, ⟨h.2.2.1.1, h.2.2.1.2.1, rfl⟩, h.2.2.2⟩
theorem DM.of {D : Df} {m : Nat} {w w' : wS} (h : DM D m w) (h2 : ∀ k, k ∈ [13, 24, 25, 26, 27, 28, 29] → w'.1 k = w.1 k) (h3 : ∀ c, c ∈ [8, 9, 10, 11, 12, 13] → w'.2.1 c = w.2.1 c) : DM D m w' := by
  unfold DM
  rw [h2 13 (by decide), h2 24 (by decide), h2 25 (by decide), h2 26 (by decide), h2 27 (by decide), h2 28 (by decide), h2 29 (by decide), h3 8 (by decide), h3 9 (by decide), h3 10 (by decide), h3 11 (by decide), h3 12 (by decide), h3 13 (by decide)]
  exact h
theorem m_isSignA (c : Int32) (w : wS) : ∃ x, L_X10_isSign c w = some (x, w) := by
  unfold L_X10_isSign J_X10_isSign_20 J_X10_isSign_21
  simp (disch := omega) only [xB_s, xB2_s, xGet_s, xPut_s, xAld_s, xAst_s, xIf_t, xBool_s, l0, l1, l2, l3, l4, l5, l6, l7, l8, l9, l10, l11, l12, l13, l15, l16, l17, l19, l20, l25, l27, l30, l31, l32, l33, l39, l40, l60, l61, l99, l100, l120, l256, l999, l1999, l99999, lm, nI_add, pk_mul, nI_leI, nI_ltI, nI_eq, wuS_1, wuS_2, wuA_1, wuA_21, wuA_22, nI_m1, m1_nI, nIlt_m1, m1lt_nI, Nat.reduceEqDiff, Nat.reduceAdd, Nat.reduceMul, Nat.reduceSub, Nat.reduceLT, Nat.reduceLeDiff, reduceIte, if_true, if_false, Bool.false_eq_true, Nat.add_zero, Nat.zero_add, ne_eq, not_false_eq_true, not_true_eq_false, Nat.not_lt_zero, Nat.add_left_cancel_iff, Nat.add_right_cancel_iff, eq_self, upd_s, pk_sub, nI_pm, Nat.add_sub_cancel, List.length_cons, List.length_nil, Nat.add_eq_zero_iff, Nat.succ_ne_zero, and_false, false_and, l14, l18, l21, l23, l24, l26, l28, l29, l34, l35, l36, l41, l42, l43, l45, l47, l48, l49, l50, l51, l52, l57, l58, l59, l62, l63, l64, l96, l97, l98, l101, l102, l103, l104, l105, l106, l107, l108, l109, l110, l111, l112, l113, l114, l115, l116, l117, l118, l119, l121, l122, l127, l255, l700, l1320, l1000000]
  by_cases q1 : w.1 18 = nI 3
  · by_cases q2 : w.1 22 = c
    · rw [if_pos q1, if_pos q2]; exact ⟨_, rfl⟩
    · rw [if_pos q1, if_neg q2]; exact ⟨_, rfl⟩
  · rw [if_neg q1]; exact ⟨_, rfl⟩
/-- the end of a line, behind a fault -/
theorem q_bad {b : Nat → Nat} {n s : Nat} {o o' : wO} {w w' v v' : wS} (hx : XFr w w') (hm : FL lMK lMA v v') (ho : oT o' = oT o ∧ oOk o') (hF : LF w' v') : R2 (J_X2_line_151 o' (nI 0) w') (J_X10_line_272 v') (LQ b n s o w v) := by
  have hF2 := hF
  obtain ⟨f, ⟨f1, f2⟩, f3, f4, f5, f6⟩ := hF
  unfold J_X2_line_151 J_X2_line_168 J_X2_line_169 J_X10_line_272 L_X10_need
  obtain ⟨x, e⟩ := m_isSignA (nI 59) v'
  have e2 := m_ngood f5 f1 f2
  simp (disch := omega) only [xB_s, xB2_s, xGet_s, xPut_s, xAld_s, xAst_s, xIf_t, xBool_s, l0, l1, l2, l3, l4, l5, l6, l7, l8, l9, l10, l11, l12, l13, l15, l16, l17, l19, l20, l25, l27, l30, l31, l32, l33, l39, l40, l60, l61, l99, l100, l120, l256, l999, l1999, l99999, lm, nI_add, pk_mul, nI_leI, nI_ltI, nI_eq, wuS_1, wuS_2, wuA_1, wuA_21, wuA_22, nI_m1, m1_nI, nIlt_m1, m1lt_nI, Nat.reduceEqDiff, Nat.reduceAdd, Nat.reduceMul, Nat.reduceSub, Nat.reduceLT, Nat.reduceLeDiff, reduceIte, if_true, if_false, Bool.false_eq_true, Nat.add_zero, Nat.zero_add, ne_eq, not_false_eq_true, not_true_eq_false, Nat.not_lt_zero, Nat.add_left_cancel_iff, Nat.add_right_cancel_iff, eq_self, upd_s, pk_sub, nI_pm, Nat.add_sub_cancel, List.length_cons, List.length_nil, Nat.add_eq_zero_iff, Nat.succ_ne_zero, and_false, false_and, l14, l18, l21, l23, l24, l26, l28, l29, l34, l35, l36, l41, l42, l43, l45, l47, l48, l49, l50, l51, l52, l57, l58, l59, l62, l63, l64, l96, l97, l98, l101, l102, l103, l104, l105, l106, l107, l108, l109, l110, l111, l112, l113, l114, l115, l116, l117, l118, l119, l121, l122, l127, l255, l700, l1320, l1000000, e, e2]
  exact R2.some ⟨⟨hx, hm⟩, ho, Or.inl ⟨rfl, hF2⟩⟩
/-- the end of a line that went well: its sign, or a fault -/
theorem q_end {b : Nat → Nat} {n s s' : Nat} {o o' : wO} {w w' v v' : wS} {D : Df} {m : Nat} (hx : XFr w w') (hm : FL lMK lMA v v') (ho : oT o' = oT o) (h : LR b n D m s' o' w' v') (hs : s ≤ s') : R2 (J_X2_line_151 o' (nI 1) w') (J_X10_line_272 v') (LQ b n s o w v) := by
  obtain ⟨⟨tx, tm⟩, hX, hM, hO⟩ := h
  unfold J_X2_line_151 J_X2_line_168 J_X2_line_169 J_X10_line_272 L_X10_need J_X10_need_24 L_X2_taken
  have e := m_isSign (c := 59) tm (by decide) (by decide)
  have h13 := hM.2.2.2.2.2
  have e2 := m_good h13
  have hb := kd_lt (b := b) (n := n) (s := s') (fun i hi => (tx.1.2.2 i hi).1)
  by_cases q : kd b n s' = 59
  · rw [if_pos q] at e
    simp (disch := omega) only [xB_s, xB2_s, xGet_s, xPut_s, xAld_s, xAst_s, xIf_t, xBool_s, l0, l1, l2, l3, l4, l5, l6, l7, l8, l9, l10, l11, l12, l13, l15, l16, l17, l19, l20, l25, l27, l30, l31, l32, l33, l39, l40, l60, l61, l99, l100, l120, l256, l999, l1999, l99999, lm, nI_add, pk_mul, nI_leI, nI_ltI, nI_eq, wuS_1, wuS_2, wuA_1, wuA_21, wuA_22, nI_m1, m1_nI, nIlt_m1, m1lt_nI, Nat.reduceEqDiff, Nat.reduceAdd, Nat.reduceMul, Nat.reduceSub, Nat.reduceLT, Nat.reduceLeDiff, reduceIte, if_true, if_false, Bool.false_eq_true, Nat.add_zero, Nat.zero_add, ne_eq, not_false_eq_true, not_true_eq_false, Nat.not_lt_zero, Nat.add_left_cancel_iff, Nat.add_right_cancel_iff, eq_self, upd_s, pk_sub, nI_pm, Nat.add_sub_cancel, List.length_cons, List.length_nil, Nat.add_eq_zero_iff, Nat.succ_ne_zero, and_false, false_and, l14, l18, l21, l23, l24, l26, l28, l29, l34, l35, l36, l41, l42, l43, l45, l47, l48, l49, l50, l51, l52, l57, l58, l59, l62, l63, l64, l96, l97, l98, l101, l102, l103, l104, l105, l106, l107, l108, l109, l110, l111, l112, l113, l114, l115, l116, l117, l118, l119, l121, l122, l127, l255, l700, l1320, l1000000, e, e2, tx.2.2.1, q]
    rw [xB2_B]
    refine R2.x (x_adv tx.1 (szT_le tx.2.1) tx.2.2.2.1 tx.2.2.2.2) ?_
    rintro w1 ⟨f1, f2⟩
    rw [xB_B]
    refine R2.m (m_goesT tm) ?_
    rintro v1 ⟨g1, g2⟩
    simp (disch := omega) only [xB_s, xB2_s, xGet_s, xPut_s, xAld_s, xAst_s, xIf_t, xBool_s, l0, l1, l2, l3, l4, l5, l6, l7, l8, l9, l10, l11, l12, l13, l15, l16, l17, l19, l20, l25, l27, l30, l31, l32, l33, l39, l40, l60, l61, l99, l100, l120, l256, l999, l1999, l99999, lm, nI_add, pk_mul, nI_leI, nI_ltI, nI_eq, wuS_1, wuS_2, wuA_1, wuA_21, wuA_22, nI_m1, m1_nI, nIlt_m1, m1lt_nI, Nat.reduceEqDiff, Nat.reduceAdd, Nat.reduceMul, Nat.reduceSub, Nat.reduceLT, Nat.reduceLeDiff, reduceIte, if_true, if_false, Bool.false_eq_true, Nat.add_zero, Nat.zero_add, ne_eq, not_false_eq_true, not_true_eq_false, Nat.not_lt_zero, Nat.add_left_cancel_iff, Nat.add_right_cancel_iff, eq_self, upd_s, pk_sub, nI_pm, Nat.add_sub_cancel, List.length_cons, List.length_nil, Nat.add_eq_zero_iff, Nat.succ_ne_zero, and_false, false_and, l14, l18, l21, l23, l24, l26, l28, l29, l34, l35, l36, l41, l42, l43, l45, l47, l48, l49, l50, l51, l52, l57, l58, l59, l62, l63, l64, l96, l97, l98, l101, l102, l103, l104, l105, l106, l107, l108, l109, l110, l111, l112, l113, l114, l115, l116, l117, l118, l119, l121, l122, l127, l255, l700, l1320, l1000000]
    refine R2.some ⟨⟨hx.F f1 (by decide) (fun c hc => absurd hc (by simp)), hm.trans (g1.mono (by decide) (by simp))⟩, ⟨ho, hX.2.2.2.1⟩, Or.inr ⟨rfl, D, m, nxT b n s', ⟨⟨f2, g2⟩, hX.of ((f1.1 101 (by decide)).trans hX.2.2.1.2.2) (fun k hk => f1.1 k (by simp at hk ⊢; omega)) (fun c _ => f1.2.1 c (by simp)) (by rw [f1.2.2]), hM.of (fun k hk => g1.1 k (by simp at hk ⊢; omega)) (fun c _ => g1.2.1 c (by simp)), ?_⟩, ?_⟩⟩
    · have := nxT_lt (b := b) (kd_in q (by decide))
      exact ⟨hO.1, hO.2.1, hO.2.2.1, hO.2.2.2.1, Nat.le_trans hO.2.2.2.2 (by omega)⟩
    · have := nxT_lt (b := b) (kd_in q (by decide))
      omega
  · rw [if_neg q] at e
    simp (disch := omega) only [xB_s, xB2_s, xGet_s, xPut_s, xAld_s, xAst_s, xIf_t, xBool_s, l0, l1, l2, l3, l4, l5, l6, l7, l8, l9, l10, l11, l12, l13, l15, l16, l17, l19, l20, l25, l27, l30, l31, l32, l33, l39, l40, l60, l61, l99, l100, l120, l256, l999, l1999, l99999, lm, nI_add, pk_mul, nI_leI, nI_ltI, nI_eq, wuS_1, wuS_2, wuA_1, wuA_21, wuA_22, nI_m1, m1_nI, nIlt_m1, m1lt_nI, Nat.reduceEqDiff, Nat.reduceAdd, Nat.reduceMul, Nat.reduceSub, Nat.reduceLT, Nat.reduceLeDiff, reduceIte, if_true, if_false, Bool.false_eq_true, Nat.add_zero, Nat.zero_add, ne_eq, not_false_eq_true, not_true_eq_false, Nat.not_lt_zero, Nat.add_left_cancel_iff, Nat.add_right_cancel_iff, eq_self, upd_s, pk_sub, nI_pm, Nat.add_sub_cancel, List.length_cons, List.length_nil, Nat.add_eq_zero_iff, Nat.succ_ne_zero, and_false, false_and, l14, l18, l21, l23, l24, l26, l28, l29, l34, l35, l36, l41, l42, l43, l45, l47, l48, l49, l50, l51, l52, l57, l58, l59, l62, l63, l64, l96, l97, l98, l101, l102, l103, l104, l105, l106, l107, l108, l109, l110, l111, l112, l113, l114, l115, l116, l117, l118, l119, l121, l122, l127, l255, l700, l1320, l1000000, e, e2, tx.2.2.1, q, m_wrong (k := 1) h13, tm.2.2.2.2.1]
    rw [xB2_B2]
    refine R2.x2 (x_refuse (k := 1) tx) ?_
    rintro a w1 ⟨g1, g2⟩
    have g1 : a = nI 0 := g1
    simp (disch := omega) only [xB_s, xB2_s, xGet_s, xPut_s, xAld_s, xAst_s, xIf_t, xBool_s, l0, l1, l2, l3, l4, l5, l6, l7, l8, l9, l10, l11, l12, l13, l15, l16, l17, l19, l20, l25, l27, l30, l31, l32, l33, l39, l40, l60, l61, l99, l100, l120, l256, l999, l1999, l99999, lm, nI_add, pk_mul, nI_leI, nI_ltI, nI_eq, wuS_1, wuS_2, wuA_1, wuA_21, wuA_22, nI_m1, m1_nI, nIlt_m1, m1lt_nI, Nat.reduceEqDiff, Nat.reduceAdd, Nat.reduceMul, Nat.reduceSub, Nat.reduceLT, Nat.reduceLeDiff, reduceIte, if_true, if_false, Bool.false_eq_true, Nat.add_zero, Nat.zero_add, ne_eq, not_false_eq_true, not_true_eq_false, Nat.not_lt_zero, Nat.add_left_cancel_iff, Nat.add_right_cancel_iff, eq_self, upd_s, pk_sub, nI_pm, Nat.add_sub_cancel, List.length_cons, List.length_nil, Nat.add_eq_zero_iff, Nat.succ_ne_zero, and_false, false_and, l14, l18, l21, l23, l24, l26, l28, l29, l34, l35, l36, l41, l42, l43, l45, l47, l48, l49, l50, l51, l52, l57, l58, l59, l62, l63, l64, l96, l97, l98, l101, l102, l103, l104, l105, l106, l107, l108, l109, l110, l111, l112, l113, l114, l115, l116, l117, l118, l119, l121, l122, l127, l255, l700, l1320, l1000000, g1]
    refine R2.some ⟨⟨hx.F g2.1 (by decide) (by decide), hm.trans ((FL.refl.S (by decide)).S (by decide))⟩, ⟨ho, hX.2.2.2.1⟩, Or.inl ⟨rfl, (1, s'), ⟨Nat.one_ne_zero, (by decide : 1 < 10)⟩, g2.2.1, g2.2.2, ?_, wuS_at⟩⟩
    show (wuS (wuS v' 13 (nI 1)) 14 (nI s')).1 13 = nI 1
    simp (disch := omega) only [xB_s, xB2_s, xGet_s, xPut_s, xAld_s, xAst_s, xIf_t, xBool_s, l0, l1, l2, l3, l4, l5, l6, l7, l8, l9, l10, l11, l12, l13, l15, l16, l17, l19, l20, l25, l27, l30, l31, l32, l33, l39, l40, l60, l61, l99, l100, l120, l256, l999, l1999, l99999, lm, nI_add, pk_mul, nI_leI, nI_ltI, nI_eq, wuS_1, wuS_2, wuA_1, wuA_21, wuA_22, nI_m1, m1_nI, nIlt_m1, m1lt_nI, Nat.reduceEqDiff, Nat.reduceAdd, Nat.reduceMul, Nat.reduceSub, Nat.reduceLT, Nat.reduceLeDiff, reduceIte, if_true, if_false, Bool.false_eq_true, Nat.add_zero, Nat.zero_add, ne_eq, not_false_eq_true, not_true_eq_false, Nat.not_lt_zero, Nat.add_left_cancel_iff, Nat.add_right_cancel_iff, eq_self, upd_s, pk_sub, nI_pm, Nat.add_sub_cancel, List.length_cons, List.length_nil, Nat.add_eq_zero_iff, Nat.succ_ne_zero, and_false, false_and, l14, l18, l21, l23, l24, l26, l28, l29, l34, l35, l36, l41, l42, l43, l45, l47, l48, l49, l50, l51, l52, l57, l58, l59, l62, l63, l64, l96, l97, l98, l101, l102, l103, l104, l105, l106, l107, l108, l109, l110, l111, l112, l113, l114, l115, l116, l117, l118, l119, l121, l122, l127, l255, l700, l1320, l1000000]
end
