section
theorem l14 : (14 : Int32) = nI 14 := by decide
theorem l18 : (18 : Int32) = nI 18 := by decide
theorem l21 : (21 : Int32) = nI 21 := by decide
theorem l23 : (23 : Int32) = nI 23 := by decide
theorem l24 : (24 : Int32) = nI 24 := by decide
theorem l26 : (26 : Int32) = nI 26 := by decide
theorem l28 : (28 : Int32) = nI 28 := by decide
theorem l29 : (29 : Int32) = nI 29 := by decide
theorem l34 : (34 : Int32) = nI 34 := by decide
theorem l35 : (35 : Int32) = nI 35 := by decide
theorem l36 : (36 : Int32) = nI 36 := by decide
theorem l41 : (41 : Int32) = nI 41 := by decide
theorem l42 : (42 : Int32) = nI 42 := by decide
theorem l43 : (43 : Int32) = nI 43 := by decide
theorem l45 : (45 : Int32) = nI 45 := by decide
theorem l47 : (47 : Int32) = nI 47 := by decide
theorem l48 : (48 : Int32) = nI 48 := by decide
theorem l49 : (49 : Int32) = nI 49 := by decide
theorem l50 : (50 : Int32) = nI 50 := by decide
theorem l51 : (51 : Int32) = nI 51 := by decide
theorem l52 : (52 : Int32) = nI 52 := by decide
theorem l57 : (57 : Int32) = nI 57 := by decide
theorem l58 : (58 : Int32) = nI 58 := by decide
theorem l59 : (59 : Int32) = nI 59 := by decide
theorem l62 : (62 : Int32) = nI 62 := by decide
theorem l63 : (63 : Int32) = nI 63 := by decide
theorem l64 : (64 : Int32) = nI 64 := by decide
theorem l96 : (96 : Int32) = nI 96 := by decide
theorem l97 : (97 : Int32) = nI 97 := by decide
theorem l98 : (98 : Int32) = nI 98 := by decide
theorem l101 : (101 : Int32) = nI 101 := by decide
theorem l102 : (102 : Int32) = nI 102 := by decide
theorem l103 : (103 : Int32) = nI 103 := by decide
theorem l104 : (104 : Int32) = nI 104 := by decide
theorem l105 : (105 : Int32) = nI 105 := by decide
theorem l106 : (106 : Int32) = nI 106 := by decide
theorem l107 : (107 : Int32) = nI 107 := by decide
theorem l108 : (108 : Int32) = nI 108 := by decide
theorem l109 : (109 : Int32) = nI 109 := by decide
theorem l110 : (110 : Int32) = nI 110 := by decide
theorem l111 : (111 : Int32) = nI 111 := by decide
theorem l112 : (112 : Int32) = nI 112 := by decide
theorem l113 : (113 : Int32) = nI 113 := by decide
theorem l114 : (114 : Int32) = nI 114 := by decide
theorem l115 : (115 : Int32) = nI 115 := by decide
theorem l116 : (116 : Int32) = nI 116 := by decide
theorem l117 : (117 : Int32) = nI 117 := by decide
theorem l118 : (118 : Int32) = nI 118 := by decide
theorem l119 : (119 : Int32) = nI 119 := by decide
theorem l121 : (121 : Int32) = nI 121 := by decide
theorem l122 : (122 : Int32) = nI 122 := by decide
theorem l127 : (127 : Int32) = nI 127 := by decide
theorem l255 : (255 : Int32) = nI 255 := by decide
theorem l700 : (700 : Int32) = nI 700 := by decide
theorem l1320 : (1320 : Int32) = nI 1320 := by decide
theorem l1000000 : (1000000 : Int32) = nI 1000000 := by decide
end
section
/-! ===== two-sided answers ===== -/
theorem wuS_at {w : wS} {k : Nat} {v : Int32} : (wuS w k v).1 k = v := by rw [wuS_1, if_pos rfl]
def R2 {α β : Type} (ox : Option α) (om : Option β) (Q : α → β → Prop) : Prop := ∃ a b, ox = some a ∧ om = some b ∧ Q a b
theorem R2.some {α β : Type} {a : α} {b : β} {Q : α → β → Prop} (h : Q a b) : R2 (some a) (some b) Q := ⟨a, b, rfl, rfl, h⟩
theorem R2.mono {α β : Type} {ox : Option α} {om : Option β} {P Q : α → β → Prop} (h : R2 ox om P) (hk : ∀ a b, P a b → Q a b) : R2 ox om Q := by
  obtain ⟨a, b, e1, e2, e3⟩ := h
  exact ⟨a, b, e1, e2, hk a b e3⟩
theorem R2.x {α β γ : Type} {ox : Option α} {kx : α → Option γ} {om : Option β} {P : α → Prop} {Q : γ → β → Prop} (h : wpO ox P) (hk : ∀ a, P a → R2 (kx a) om Q) : R2 (xB ox kx) om Q := by
  obtain ⟨a, rfl, ha⟩ := h
  exact hk a ha
theorem R2.x2 {α α' β γ : Type} {ox : Option (α × α')} {kx : α → α' → Option γ} {om : Option β} {P : α × α' → Prop} {Q : γ → β → Prop} (h : wpO ox P) (hk : ∀ a a', P (a, a') → R2 (kx a a') om Q) : R2 (xB2 ox kx) om Q := by
  obtain ⟨⟨a, a'⟩, rfl, ha⟩ := h
  exact hk a a' ha
theorem R2.m {α β γ : Type} {om : Option α} {km : α → Option γ} {ox : Option β} {P : α → Prop} {Q : β → γ → Prop} (h : wpO om P) (hk : ∀ a, P a → R2 ox (km a) Q) : R2 ox (xB om km) Q := by
  obtain ⟨a, rfl, ha⟩ := h
  exact hk a ha
theorem R2.m2 {α α' β γ : Type} {om : Option (α × α')} {km : α → α' → Option γ} {ox : Option β} {P : α × α' → Prop} {Q : β → γ → Prop} (h : wpO om P) (hk : ∀ a a', P (a, a') → R2 ox (km a a') Q) : R2 ox (xB2 om km) Q := by
  obtain ⟨⟨a, a'⟩, rfl, ha⟩ := h
  exact hk a a' ha
/-- both sides' parts at once -/
theorem R2.B {α β γ δ : Type} {ox : Option α} {om : Option β} {kx : α → Option γ} {km : β → Option δ} {P : α → β → Prop} {Q : γ → δ → Prop} (h : R2 ox om P) (hk : ∀ a b, P a b → R2 (kx a) (km b) Q) : R2 (xB ox kx) (xB om km) Q := by
  obtain ⟨a, b, rfl, rfl, h3⟩ := h
  exact hk a b h3
theorem R2.wp {α β : Type} {ox : Option α} {om : Option β} {P : α → Prop} {P' : β → Prop} {Q : α → β → Prop} (h : wpO ox P) (h' : wpO om P') (hk : ∀ a b, P a → P' b → Q a b) : R2 ox om Q := by
  obtain ⟨a, rfl, ha⟩ := h
  obtain ⟨b, rfl, hb⟩ := h'
  exact ⟨a, b, rfl, rfl, hk a b ha hb⟩
/-- loops in step -/
theorem r_loop {σ ρ σ' ρ' : Type} {bx : (σ → Option ρ) → σ → Option ρ} {bm : (σ' → Option ρ') → σ' → Option ρ'} {Q : ρ → ρ' → Prop} (Inv : Nat → σ → σ' → Prop)
    (h : ∀ (n : Nat) (s : σ) (s' : σ') (kx : σ → Option ρ) (km : σ' → Option ρ'), Inv n s s' → (∀ (m : Nat) (z : σ) (z' : σ'), m < n → Inv m z z' → R2 (kx z) (km z') Q) → R2 (bx kx s) (bm km s') Q) :
    ∀ (fx fm n : Nat) (s : σ) (s' : σ'), n < fx → n < fm → Inv n s s' → R2 (xLoop bx fx s) (xLoop bm fm s') Q
  | 0, fm, n, s, s', hn, _, _ => absurd hn (Nat.not_lt_zero n)
  | fx + 1, 0, n, s, s', _, hn, _ => absurd hn (Nat.not_lt_zero n)
  | fx + 1, fm + 1, n, s, s', hn, hn', hI => h n s s' (xLoop bx fx) (xLoop bm fm) hI (fun m z z' hm hI' => r_loop Inv h fx fm m z z' (by omega) (by omega) hI')
theorem r_for {σ ρ σ' ρ' : Type} {bx : (σ → Option ρ) → σ → Option ρ} {bm : (σ' → Option ρ') → σ' → Option ρ'} {Q : ρ → ρ' → Prop} (N : Nat) (Inv : Nat → σ → σ' → Prop)
    (h : ∀ (i : Nat) (s : σ) (s' : σ') (kx : σ → Option ρ) (km : σ' → Option ρ'), i ≤ N → Inv i s s' → (i < N → ∀ (z : σ) (z' : σ'), Inv (i + 1) z z' → R2 (kx z) (km z') Q) → R2 (bx kx s) (bm km s') Q)
    {fx fm i : Nat} {s : σ} {s' : σ'} (hi : i ≤ N) (hf : N < fx) (hf' : N < fm) (hI : Inv i s s') : R2 (xLoop bx fx s) (xLoop bm fm s') Q := by
  refine r_loop (fun n s s' => n ≤ N ∧ Inv (N - n) s s') ?_ fx fm (N - i) s s' (by omega) (by omega) ⟨by omega, by rw [show N - (N - i) = i by omega]; exact hI⟩
  intro n s s' kx km hn hk
  refine h (N - n) s s' kx km (by omega) hn.2 (fun hlt z z' hz => hk (n - 1) z z' (by omega) ⟨by omega, ?_⟩)
  rw [show N - (n - 1) = N - n + 1 by omega]
  exact hz
theorem xBT_n {γ : Type} (kx : String → Option γ) (k : Option γ) : xBT (some none) kx k = k := Eq.trans rfl rfl
theorem xBT_e {γ : Type} (E : String) (kx : String → Option γ) (k : Option γ) : xBT (some (some E)) kx k = kx E := Eq.trans rfl rfl
/-! ===== the relation of both worlds, as questions need it ===== -/
def PQ (t : Tn) (y : Yw) (o : wO) (wx wm : wS) : Prop := (tOk t ∧ yOk t y ∧ yD y ≤ 999) ∧ (XT t o wx ∧ XY y (wx.2.1 14)) ∧ TM t wm ∧ YM y (wm.2.1 16) 0 ∧ wm.1 52 = nI 0 ∧ wm.1 53 = mI ∧ ∃ b, b ≤ 99 ∧ wm.1 55 = nI b
abbrev mKs : List Nat := [0, 49, 50, 51, 54, 55, 62]
abbrev mAs : List Nat := [16, 18, 19, 20, 21, 22, 23, 24, 26, 27, 28]
def QM (w w' : wS) : Prop := Fr mKs mAs w w' ∧ (∀ k, k < 33 → w'.2.1 16 k = w.2.1 16 k) ∧ (w'.1 55 = w.1 55 ∨ ∃ b, b ≤ 99 ∧ w'.1 55 = nI b)
theorem QM.refl {w : wS} : QM w w := ⟨Fr.refl, fun _ _ => rfl, Or.inl rfl⟩
theorem QM.trans {w w' w'' : wS} (h : QM w w') (h' : QM w' w'') : QM w w'' := by
  refine ⟨h.1.trans h'.1, fun k hk => (h'.2.1 k hk).trans (h.2.1 k hk), ?_⟩
  rcases h'.2.2 with e | e
  · rw [e]; exact h.2.2
  · exact Or.inr e
theorem QM.f {w w' : wS} (h : mF 33 w w') : QM w w' := ⟨h.1.mono (by decide) (by decide), fun k hk => h.2 k (Or.inl hk), Or.inl (h.1.1 55 (by decide))⟩
theorem QM.S {w w' : wS} {k : Nat} {v : Int32} (h : QM w w') (hk : k ∈ mKs) (h2 : k ≠ 55) : QM w (wuS w' k v) := by
  refine ⟨h.1.S hk, h.2.1, ?_⟩
  rw [wuS_1, if_neg (fun e => h2 e.symm)]
  exact h.2.2
theorem QM.A {w w' : wS} {c : Nat} {f : Nat → Int32} (h : QM w w') (hk : c ∈ mAs) (h2 : c ≠ 16) : QM w (wuA w' c f) := by
  refine ⟨h.1.A hk, ?_, h.2.2⟩
  intro k hk
  rw [wuA_21, if_neg (fun e => h2 e.symm)]
  exact h.2.1 k hk
theorem TM.q {t : Tn} {w w' : wS} (h : TM t w) (q : QM w w') (_ : w'.1 0 = w'.1 0) : TM t w' := by
  unfold TM
  rw [q.1.1 1 (by decide), q.1.1 2 (by decide), q.1.1 3 (by decide), q.1.1 4 (by decide), q.1.1 5 (by decide), q.1.2.1 1 (by decide), q.1.2.1 2 (by decide), q.1.2.1 3 (by decide), q.1.2.1 4 (by decide), q.1.2.1 5 (by decide)]
  exact h
theorem PQ.q {t : Tn} {y : Yw} {o : wO} {wx wm wx' wm' : wS} (h : PQ t y o wx wm) (qx : QX wx wx') (qm : QM wm wm') : PQ t y o wx' wm' := by
  obtain ⟨h1, ⟨h2, h3⟩, h4, h5, h6, h7, h8⟩ := h
  refine ⟨h1, ⟨h2.q qx, ?_⟩, h4.q qm rfl, ?_, ?_, ?_, ?_⟩
  · rw [qx.2.1 14 (by decide)]; exact h3
  · exact h5.of (fun k _ hk => qm.2.1 k (by omega))
  · rw [qm.1.1 52 (by decide)]; exact h6
  · rw [qm.1.1 53 (by decide)]; exact h7
  · rcases qm.2.2 with e | e
    · rw [e]; exact h8
    · exact e
theorem PQ.em {t : Tn} {y : Yw} {o : wO} {wx wm : wS} (h : PQ t y o wx wm) : EM (exC 0) wm := by
  obtain ⟨h1, ⟨h2, h3⟩, h4, h5, h6, h7, b, h8, h9⟩ := h
  refine ⟨0, b, h6, h9, by omega, h8, fun d p hp hd => ?_⟩
  have e : (nI p = mI) = False := nI_m1 (by omega)
  simp [h7, e, exC]
/-- how a throw is told -/
def cdN (E : String) : Nat := if E = cNo then 1 else 2
def cd1 (_ : String) : Nat := 1
def QA (cd : String → Nat) (wx wm : wS) (rx : (Int32 ⊕ String) × wS) (rm : Int32 × wS) : Prop := QX wx rx.2 ∧ QM wm rm.2 ∧ match rx.1 with
  | .inl v => rm.2.1 0 = nI 0 ∧ rm.1 = v
  | .inr E => (E = cNo ∨ E = cIl) ∧ rm.2.1 0 = nI (cd E)
def QI (wx wm : wS) (rx : Int32 × wS) (rm : Int32 × wS) : Prop := QX wx rx.2 ∧ QM wm rm.2 ∧ rm.2.1 0 = nI 0 ∧ rm.1 = rx.1
/-! guards -/
theorem m_right {w : wS} {v a : Nat} (h0 : w.1 0 = nI 0) (hv : v ≤ 1) (ha : 1 ≤ a) (ha2 : a ≤ 2) : L_X10_right (nI v) (nI a) w = some (if v = 0 then (nI 0, wuS w 0 (nI a)) else (nI 1, w)) := by
  unfold L_X10_right J_X10_right_16 J_X10_right_28
  by_cases h : v = 0
  · subst h
    simp (disch := omega) only [xB_s, xB2_s, xGet_s, xPut_s, xAld_s, xAst_s, xIf_t, xBool_s, l0, l1, l2, l3, l4, l5, l6, l7, l8, l9, l10, l11, l12, l13, l15, l16, l17, l19, l20, l25, l27, l30, l31, l32, l33, l39, l40, l60, l61, l99, l100, l120, l256, l999, l1999, l99999, lm, nI_add, pk_mul, nI_leI, nI_ltI, nI_eq, wuS_1, wuS_2, wuA_1, wuA_21, wuA_22, nI_m1, m1_nI, nIlt_m1, m1lt_nI, Nat.reduceEqDiff, Nat.reduceAdd, Nat.reduceMul, Nat.reduceSub, Nat.reduceLT, Nat.reduceLeDiff, reduceIte, if_true, if_false, Bool.false_eq_true, Nat.add_zero, Nat.zero_add, ne_eq, not_false_eq_true, not_true_eq_false, Nat.not_lt_zero, Nat.add_left_cancel_iff, Nat.add_right_cancel_iff, eq_self, upd_s, pk_sub, nI_pm, Nat.add_sub_cancel, List.length_cons, List.length_nil, Nat.add_eq_zero_iff, Nat.succ_ne_zero, and_false, false_and, l14, l18, l21, l23, l24, l26, l28, l29, l34, l35, l36, l41, l42, l43, l45, l47, l48, l49, l50, l51, l52, l57, l58, l59, l62, l63, l64, l96, l97, l98, l101, l102, l103, l104, l105, l106, l107, l108, l109, l110, l111, l112, l113, l114, l115, l116, l117, l118, l119, l121, l122, l127, l255, l700, l1320, l1000000, h0, show (a = 0) = False from eq_false (by omega)]
  · simp (disch := omega) only [xB_s, xB2_s, xGet_s, xPut_s, xAld_s, xAst_s, xIf_t, xBool_s, l0, l1, l2, l3, l4, l5, l6, l7, l8, l9, l10, l11, l12, l13, l15, l16, l17, l19, l20, l25, l27, l30, l31, l32, l33, l39, l40, l60, l61, l99, l100, l120, l256, l999, l1999, l99999, lm, nI_add, pk_mul, nI_leI, nI_ltI, nI_eq, wuS_1, wuS_2, wuA_1, wuA_21, wuA_22, nI_m1, m1_nI, nIlt_m1, m1lt_nI, Nat.reduceEqDiff, Nat.reduceAdd, Nat.reduceMul, Nat.reduceSub, Nat.reduceLT, Nat.reduceLeDiff, reduceIte, if_true, if_false, Bool.false_eq_true, Nat.add_zero, Nat.zero_add, ne_eq, not_false_eq_true, not_true_eq_false, Nat.not_lt_zero, Nat.add_left_cancel_iff, Nat.add_right_cancel_iff, eq_self, upd_s, pk_sub, nI_pm, Nat.add_sub_cancel, List.length_cons, List.length_nil, Nat.add_eq_zero_iff, Nat.succ_ne_zero, and_false, false_and, l14, l18, l21, l23, l24, l26, l28, l29, l34, l35, l36, l41, l42, l43, l45, l47, l48, l49, l50, l51, l52, l57, l58, l59, l62, l63, l64, l96, l97, l98, l101, l102, l103, l104, l105, l106, l107, l108, l109, l110, l111, l112, l113, l114, l115, l116, l117, l118, l119, l121, l122, l127, l255, l700, l1320, l1000000, h0, h]
theorem m_within {v : Int32} {a b : Nat} (ha : a < 2 ^ 31) (hb : b < 2 ^ 31) : L_X10_within v (nI a) (nI b) = some (if (a : Int) ≤ v.toInt ∧ v.toInt ≤ b then nI 1 else nI 0) := by
  unfold L_X10_within J_X10_within_14 J_X10_within_15
  have e1 : v < nI a ↔ v.toInt < a := by rw [Int32.lt_iff_toInt_lt, nI_toInt ha]
  have e2 : nI b < v ↔ (b : Int) < v.toInt := by rw [Int32.lt_iff_toInt_lt, nI_toInt hb]
  simp only [e1, e2]
  by_cases h1 : v.toInt < a
  · rw [if_pos h1, if_neg (by omega)]; simp (disch := omega) only [xB_s, xB2_s, xGet_s, xPut_s, xAld_s, xAst_s, xIf_t, xBool_s, l0, l1, l2, l3, l4, l5, l6, l7, l8, l9, l10, l11, l12, l13, l15, l16, l17, l19, l20, l25, l27, l30, l31, l32, l33, l39, l40, l60, l61, l99, l100, l120, l256, l999, l1999, l99999, lm, nI_add, pk_mul, nI_leI, nI_ltI, nI_eq, wuS_1, wuS_2, wuA_1, wuA_21, wuA_22, nI_m1, m1_nI, nIlt_m1, m1lt_nI, Nat.reduceEqDiff, Nat.reduceAdd, Nat.reduceMul, Nat.reduceSub, Nat.reduceLT, Nat.reduceLeDiff, reduceIte, if_true, if_false, Bool.false_eq_true, Nat.add_zero, Nat.zero_add, ne_eq, not_false_eq_true, not_true_eq_false, Nat.not_lt_zero, Nat.add_left_cancel_iff, Nat.add_right_cancel_iff, eq_self, upd_s, pk_sub, nI_pm, Nat.add_sub_cancel, List.length_cons, List.length_nil, Nat.add_eq_zero_iff, Nat.succ_ne_zero, and_false, false_and, l14, l18, l21, l23, l24, l26, l28, l29, l34, l35, l36, l41, l42, l43, l45, l47, l48, l49, l50, l51, l52, l57, l58, l59, l62, l63, l64, l96, l97, l98, l101, l102, l103, l104, l105, l106, l107, l108, l109, l110, l111, l112, l113, l114, l115, l116, l117, l118, l119, l121, l122, l127, l255, l700, l1320, l1000000]
  · rw [if_neg h1]
    by_cases h2 : (b : Int) < v.toInt
    · rw [if_pos h2, if_neg (by omega)]; simp (disch := omega) only [xB_s, xB2_s, xGet_s, xPut_s, xAld_s, xAst_s, xIf_t, xBool_s, l0, l1, l2, l3, l4, l5, l6, l7, l8, l9, l10, l11, l12, l13, l15, l16, l17, l19, l20, l25, l27, l30, l31, l32, l33, l39, l40, l60, l61, l99, l100, l120, l256, l999, l1999, l99999, lm, nI_add, pk_mul, nI_leI, nI_ltI, nI_eq, wuS_1, wuS_2, wuA_1, wuA_21, wuA_22, nI_m1, m1_nI, nIlt_m1, m1lt_nI, Nat.reduceEqDiff, Nat.reduceAdd, Nat.reduceMul, Nat.reduceSub, Nat.reduceLT, Nat.reduceLeDiff, reduceIte, if_true, if_false, Bool.false_eq_true, Nat.add_zero, Nat.zero_add, ne_eq, not_false_eq_true, not_true_eq_false, Nat.not_lt_zero, Nat.add_left_cancel_iff, Nat.add_right_cancel_iff, eq_self, upd_s, pk_sub, nI_pm, Nat.add_sub_cancel, List.length_cons, List.length_nil, Nat.add_eq_zero_iff, Nat.succ_ne_zero, and_false, false_and, l14, l18, l21, l23, l24, l26, l28, l29, l34, l35, l36, l41, l42, l43, l45, l47, l48, l49, l50, l51, l52, l57, l58, l59, l62, l63, l64, l96, l97, l98, l101, l102, l103, l104, l105, l106, l107, l108, l109, l110, l111, l112, l113, l114, l115, l116, l117, l118, l119, l121, l122, l127, l255, l700, l1320, l1000000]
    · rw [if_neg h2, if_pos (by omega)]; simp (disch := omega) only [xB_s, xB2_s, xGet_s, xPut_s, xAld_s, xAst_s, xIf_t, xBool_s, l0, l1, l2, l3, l4, l5, l6, l7, l8, l9, l10, l11, l12, l13, l15, l16, l17, l19, l20, l25, l27, l30, l31, l32, l33, l39, l40, l60, l61, l99, l100, l120, l256, l999, l1999, l99999, lm, nI_add, pk_mul, nI_leI, nI_ltI, nI_eq, wuS_1, wuS_2, wuA_1, wuA_21, wuA_22, nI_m1, m1_nI, nIlt_m1, m1lt_nI, Nat.reduceEqDiff, Nat.reduceAdd, Nat.reduceMul, Nat.reduceSub, Nat.reduceLT, Nat.reduceLeDiff, reduceIte, if_true, if_false, Bool.false_eq_true, Nat.add_zero, Nat.zero_add, ne_eq, not_false_eq_true, not_true_eq_false, Nat.not_lt_zero, Nat.add_left_cancel_iff, Nat.add_right_cancel_iff, eq_self, upd_s, pk_sub, nI_pm, Nat.add_sub_cancel, List.length_cons, List.length_nil, Nat.add_eq_zero_iff, Nat.succ_ne_zero, and_false, false_and, l14, l18, l21, l23, l24, l26, l28, l29, l34, l35, l36, l41, l42, l43, l45, l47, l48, l49, l50, l51, l52, l57, l58, l59, l62, l63, l64, l96, l97, l98, l101, l102, l103, l104, l105, l106, l107, l108, l109, l110, l111, l112, l113, l114, l115, l116, l117, l118, l119, l121, l122, l127, l255, l700, l1320, l1000000]
theorem int_nat {v : Int32} {a b : Nat} (h : (a : Int) ≤ v.toInt ∧ v.toInt ≤ b) : ∃ n : Nat, a ≤ n ∧ n ≤ b ∧ v = nI n := ⟨v.toInt.toNat, by omega, by omega, toInt_nn (by omega)⟩
theorem g_range {γ δ : Type} {v : Int32} {a b c : Nat} {w : wS} {fx : String → Option γ} {kx : Option γ} {fm : Int32 → wS → Option δ} {Q : γ → δ → Prop} (ha : a < 2 ^ 31) (hb : b < 2 ^ 31) (hc : 1 ≤ c) (hc2 : c ≤ 2) (h0 : w.1 0 = nI 0) (bad : R2 (fx cIl) (fm (nI 0) (wuS w 0 (nI c))) Q) (ok : ∀ n, a ≤ n → n ≤ b → v = nI n → R2 kx (fm (nI 1) w) Q) : R2 (xBT (L_X9_needRange v (nI a) (nI b)) fx kx) (xB (L_X10_within v (nI a) (nI b)) fun v1 => xB2 (L_X10_right v1 (nI c) w) fm) Q := by
  have e1 : v < nI a ↔ v.toInt < a := by rw [Int32.lt_iff_toInt_lt, nI_toInt ha]
  have e2 : v ≤ nI b ↔ v.toInt ≤ b := by rw [Int32.le_iff_toInt_le, nI_toInt hb]
  rw [m_within ha hb]
  unfold L_X9_needRange J_X9_needRange_10
  simp only [e1, e2, xB_s]
  by_cases h : (a : Int) ≤ v.toInt ∧ v.toInt ≤ b
  · rw [if_pos h, if_neg (by omega), if_pos h.2, xBT_n, m_right h0 (by omega) hc hc2]
    obtain ⟨n, n1, n2, n3⟩ := int_nat h
    exact ok n n1 n2 n3
  · rw [if_neg h]
    have hx : (if v.toInt < a then some (some cIl) else if v.toInt ≤ b then some none else some (some cIl)) = some (some cIl) := by
      by_cases h1 : v.toInt < a
      · rw [if_pos h1]
      · rw [if_neg h1, if_neg (by omega)]
    rw [hx, xBT_e, m_right h0 (by omega) hc hc2]
    exact bad
theorem g_days {γ δ : Type} {v : Int32} {a c : Nat} {w : wS} {fx : String → Option γ} {kx : Option γ} {fm : Int32 → wS → Option δ} {Q : γ → δ → Prop} (ha : a < 2 ^ 31) (hc : 1 ≤ c) (hc2 : c ≤ 2) (h0 : w.1 0 = nI 0) (bad : R2 (fx cIl) (fm (nI 0) (wuS w 0 (nI c))) Q) (ok : ∀ n, a ≤ n → n ≤ 40 → v = nI n → R2 kx (fm (nI 1) w) Q) : R2 (xBT (L_X9_needRange v (nI a) (nI 40)) fx kx) (xB2 (L_X10_isDays v (nI a) (nI c) w) fm) Q := by
  have h := g_range (v := v) (a := a) (b := 40) (c := c) (w := w) (fx := fx) (kx := kx) (fm := fun v w => xB2 (xB (xBool v) fun v => some (v, w)) fm) (Q := Q) ha (by omega) hc hc2 h0 (by simp (disch := omega) only [xB_s, xB2_s, xGet_s, xPut_s, xAld_s, xAst_s, xIf_t, xBool_s, l0, l1, l2, l3, l4, l5, l6, l7, l8, l9, l10, l11, l12, l13, l15, l16, l17, l19, l20, l25, l27, l30, l31, l32, l33, l39, l40, l60, l61, l99, l100, l120, l256, l999, l1999, l99999, lm, nI_add, pk_mul, nI_leI, nI_ltI, nI_eq, wuS_1, wuS_2, wuA_1, wuA_21, wuA_22, nI_m1, m1_nI, nIlt_m1, m1lt_nI, Nat.reduceEqDiff, Nat.reduceAdd, Nat.reduceMul, Nat.reduceSub, Nat.reduceLT, Nat.reduceLeDiff, reduceIte, if_true, if_false, Bool.false_eq_true, Nat.add_zero, Nat.zero_add, ne_eq, not_false_eq_true, not_true_eq_false, Nat.not_lt_zero, Nat.add_left_cancel_iff, Nat.add_right_cancel_iff, eq_self, upd_s, pk_sub, nI_pm, Nat.add_sub_cancel, List.length_cons, List.length_nil, Nat.add_eq_zero_iff, Nat.succ_ne_zero, and_false, false_and, l14, l18, l21, l23, l24, l26, l28, l29, l34, l35, l36, l41, l42, l43, l45, l47, l48, l49, l50, l51, l52, l57, l58, l59, l62, l63, l64, l96, l97, l98, l101, l102, l103, l104, l105, l106, l107, l108, l109, l110, l111, l112, l113, l114, l115, l116, l117, l118, l119, l121, l122, l127, l255, l700, l1320, l1000000]; exact bad) (fun n h1 h2 h3 => by simp (disch := omega) only [xB_s, xB2_s, xGet_s, xPut_s, xAld_s, xAst_s, xIf_t, xBool_s, l0, l1, l2, l3, l4, l5, l6, l7, l8, l9, l10, l11, l12, l13, l15, l16, l17, l19, l20, l25, l27, l30, l31, l32, l33, l39, l40, l60, l61, l99, l100, l120, l256, l999, l1999, l99999, lm, nI_add, pk_mul, nI_leI, nI_ltI, nI_eq, wuS_1, wuS_2, wuA_1, wuA_21, wuA_22, nI_m1, m1_nI, nIlt_m1, m1lt_nI, Nat.reduceEqDiff, Nat.reduceAdd, Nat.reduceMul, Nat.reduceSub, Nat.reduceLT, Nat.reduceLeDiff, reduceIte, if_true, if_false, Bool.false_eq_true, Nat.add_zero, Nat.zero_add, ne_eq, not_false_eq_true, not_true_eq_false, Nat.not_lt_zero, Nat.add_left_cancel_iff, Nat.add_right_cancel_iff, eq_self, upd_s, pk_sub, nI_pm, Nat.add_sub_cancel, List.length_cons, List.length_nil, Nat.add_eq_zero_iff, Nat.succ_ne_zero, and_false, false_and, l14, l18, l21, l23, l24, l26, l28, l29, l34, l35, l36, l41, l42, l43, l45, l47, l48, l49, l50, l51, l52, l57, l58, l59, l62, l63, l64, l96, l97, l98, l101, l102, l103, l104, l105, l106, l107, l108, l109, l110, l111, l112, l113, l114, l115, l116, l117, l118, l119, l121, l122, l127, l255, l700, l1320, l1000000]; exact ok n h1 h2 h3)
  unfold L_X10_isDays
  rw [m_within ha (by omega)] at h
  rw [l40, m_within ha (by omega)]
  simp only [xB_s] at h ⊢
  obtain ⟨x, z, e1, e2, e3⟩ := h
  refine ⟨x, z, e1, ?_, e3⟩
  rw [← e2]
  by_cases hq : (a : Int) ≤ v.toInt ∧ v.toInt ≤ (40 : Nat)
  · rw [if_pos hq, m_right h0 (by omega) hc hc2]; simp (disch := omega) only [xB_s, xB2_s, xGet_s, xPut_s, xAld_s, xAst_s, xIf_t, xBool_s, l0, l1, l2, l3, l4, l5, l6, l7, l8, l9, l10, l11, l12, l13, l15, l16, l17, l19, l20, l25, l27, l30, l31, l32, l33, l39, l40, l60, l61, l99, l100, l120, l256, l999, l1999, l99999, lm, nI_add, pk_mul, nI_leI, nI_ltI, nI_eq, wuS_1, wuS_2, wuA_1, wuA_21, wuA_22, nI_m1, m1_nI, nIlt_m1, m1lt_nI, Nat.reduceEqDiff, Nat.reduceAdd, Nat.reduceMul, Nat.reduceSub, Nat.reduceLT, Nat.reduceLeDiff, reduceIte, if_true, if_false, Bool.false_eq_true, Nat.add_zero, Nat.zero_add, ne_eq, not_false_eq_true, not_true_eq_false, Nat.not_lt_zero, Nat.add_left_cancel_iff, Nat.add_right_cancel_iff, eq_self, upd_s, pk_sub, nI_pm, Nat.add_sub_cancel, List.length_cons, List.length_nil, Nat.add_eq_zero_iff, Nat.succ_ne_zero, and_false, false_and, l14, l18, l21, l23, l24, l26, l28, l29, l34, l35, l36, l41, l42, l43, l45, l47, l48, l49, l50, l51, l52, l57, l58, l59, l62, l63, l64, l96, l97, l98, l101, l102, l103, l104, l105, l106, l107, l108, l109, l110, l111, l112, l113, l114, l115, l116, l117, l118, l119, l121, l122, l127, l255, l700, l1320, l1000000]
  · rw [if_neg hq, m_right h0 (by omega) hc hc2]; simp (disch := omega) only [xB_s, xB2_s, xGet_s, xPut_s, xAld_s, xAst_s, xIf_t, xBool_s, l0, l1, l2, l3, l4, l5, l6, l7, l8, l9, l10, l11, l12, l13, l15, l16, l17, l19, l20, l25, l27, l30, l31, l32, l33, l39, l40, l60, l61, l99, l100, l120, l256, l999, l1999, l99999, lm, nI_add, pk_mul, nI_leI, nI_ltI, nI_eq, wuS_1, wuS_2, wuA_1, wuA_21, wuA_22, nI_m1, m1_nI, nIlt_m1, m1lt_nI, Nat.reduceEqDiff, Nat.reduceAdd, Nat.reduceMul, Nat.reduceSub, Nat.reduceLT, Nat.reduceLeDiff, reduceIte, if_true, if_false, Bool.false_eq_true, Nat.add_zero, Nat.zero_add, ne_eq, not_false_eq_true, not_true_eq_false, Nat.not_lt_zero, Nat.add_left_cancel_iff, Nat.add_right_cancel_iff, eq_self, upd_s, pk_sub, nI_pm, Nat.add_sub_cancel, List.length_cons, List.length_nil, Nat.add_eq_zero_iff, Nat.succ_ne_zero, and_false, false_and, l14, l18, l21, l23, l24, l26, l28, l29, l34, l35, l36, l41, l42, l43, l45, l47, l48, l49, l50, l51, l52, l57, l58, l59, l62, l63, l64, l96, l97, l98, l101, l102, l103, l104, l105, l106, l107, l108, l109, l110, l111, l112, l113, l114, l115, l116, l117, l118, l119, l121, l122, l127, l255, l700, l1320, l1000000]
theorem g_what {γ δ : Type} {v : Int32} {b : Nat} {w : wS} {fx : String → Option γ} {kx : Option γ} {fm : Int32 → wS → Option δ} {Q : γ → δ → Prop} (hb : b < 2 ^ 31) (h0 : w.1 0 = nI 0) (bad : R2 (fx cNo) (fm (nI 0) (wuS w 0 (nI 1))) Q) (ok : ∀ n, n ≤ b → v = nI n → R2 kx (fm (nI 1) w) Q) : R2 (xBT (L_X9_needWhat v (nI b)) fx kx) (xB2 (L_X10_isWhat v (nI b) w) fm) Q := by
  have e1 : v < nI 0 ↔ v.toInt < (0 : Nat) := by rw [Int32.lt_iff_toInt_lt, nI_toInt (by omega)]
  have e2 : v ≤ nI b ↔ v.toInt ≤ b := by rw [Int32.le_iff_toInt_le, nI_toInt hb]
  unfold L_X9_needWhat J_X9_needWhat_9 L_X10_isWhat
  rw [l0, m_within (by omega) hb, l1]
  simp only [e1, e2, xB_s]
  by_cases h : ((0 : Nat) : Int) ≤ v.toInt ∧ v.toInt ≤ b
  · rw [if_pos h, if_neg (by omega), if_pos h.2, xBT_n, m_right h0 (by omega) (by omega) (by omega)]
    obtain ⟨n, n1, n2, n3⟩ := int_nat h
    simp (disch := omega) only [xB_s, xB2_s, xGet_s, xPut_s, xAld_s, xAst_s, xIf_t, xBool_s, l0, l1, l2, l3, l4, l5, l6, l7, l8, l9, l10, l11, l12, l13, l15, l16, l17, l19, l20, l25, l27, l30, l31, l32, l33, l39, l40, l60, l61, l99, l100, l120, l256, l999, l1999, l99999, lm, nI_add, pk_mul, nI_leI, nI_ltI, nI_eq, wuS_1, wuS_2, wuA_1, wuA_21, wuA_22, nI_m1, m1_nI, nIlt_m1, m1lt_nI, Nat.reduceEqDiff, Nat.reduceAdd, Nat.reduceMul, Nat.reduceSub, Nat.reduceLT, Nat.reduceLeDiff, reduceIte, if_true, if_false, Bool.false_eq_true, Nat.add_zero, Nat.zero_add, ne_eq, not_false_eq_true, not_true_eq_false, Nat.not_lt_zero, Nat.add_left_cancel_iff, Nat.add_right_cancel_iff, eq_self, upd_s, pk_sub, nI_pm, Nat.add_sub_cancel, List.length_cons, List.length_nil, Nat.add_eq_zero_iff, Nat.succ_ne_zero, and_false, false_and, l14, l18, l21, l23, l24, l26, l28, l29, l34, l35, l36, l41, l42, l43, l45, l47, l48, l49, l50, l51, l52, l57, l58, l59, l62, l63, l64, l96, l97, l98, l101, l102, l103, l104, l105, l106, l107, l108, l109, l110, l111, l112, l113, l114, l115, l116, l117, l118, l119, l121, l122, l127, l255, l700, l1320, l1000000]
    exact ok n n2 n3
  · rw [if_neg h]
    have hx : (if v.toInt < (0 : Nat) then some (some cNo) else if v.toInt ≤ b then some none else some (some cNo)) = some (some cNo) := by
      by_cases h1 : v.toInt < (0 : Nat)
      · rw [if_pos h1]
      · rw [if_neg h1, if_neg (by omega)]
    rw [hx, xBT_e, m_right h0 (by omega) (by omega) (by omega)]
    simp (disch := omega) only [xB_s, xB2_s, xGet_s, xPut_s, xAld_s, xAst_s, xIf_t, xBool_s, l0, l1, l2, l3, l4, l5, l6, l7, l8, l9, l10, l11, l12, l13, l15, l16, l17, l19, l20, l25, l27, l30, l31, l32, l33, l39, l40, l60, l61, l99, l100, l120, l256, l999, l1999, l99999, lm, nI_add, pk_mul, nI_leI, nI_ltI, nI_eq, wuS_1, wuS_2, wuA_1, wuA_21, wuA_22, nI_m1, m1_nI, nIlt_m1, m1lt_nI, Nat.reduceEqDiff, Nat.reduceAdd, Nat.reduceMul, Nat.reduceSub, Nat.reduceLT, Nat.reduceLeDiff, reduceIte, if_true, if_false, Bool.false_eq_true, Nat.add_zero, Nat.zero_add, ne_eq, not_false_eq_true, not_true_eq_false, Nat.not_lt_zero, Nat.add_left_cancel_iff, Nat.add_right_cancel_iff, eq_self, upd_s, pk_sub, nI_pm, Nat.add_sub_cancel, List.length_cons, List.length_nil, Nat.add_eq_zero_iff, Nat.succ_ne_zero, and_false, false_and, l14, l18, l21, l23, l24, l26, l28, l29, l34, l35, l36, l41, l42, l43, l45, l47, l48, l49, l50, l51, l52, l57, l58, l59, l62, l63, l64, l96, l97, l98, l101, l102, l103, l104, l105, l106, l107, l108, l109, l110, l111, l112, l113, l114, l115, l116, l117, l118, l119, l121, l122, l127, l255, l700, l1320, l1000000]
    exact bad
theorem g_person {γ δ : Type} {t : Tn} {o : wO} {wx w : wS} {v : Int32} {fx : String → Option γ} {kx : Option γ} {fm : Int32 → wS → Option δ} {Q : γ → δ → Prop} (T : XT t o wx) (ho : tOk t) (h1 : w.1 1 = nI (tP t)) (h0 : w.1 0 = nI 0) (bad : R2 (fx cNo) (fm (nI 0) (wuS w 0 (nI 1))) Q) (ok : ∀ p, p < tP t → v = nI p → R2 kx (fm (nI 1) w) Q) : R2 (xBT (L_X9_needPerson o v wx) fx kx) (xB2 (L_X10_isPerson v w) fm) Q := by
  have b1 := ho.1
  have r1 := xRef_t T.2.1
  unfold L_X9_needPerson J_X9_needPerson_15 L_X10_isPerson J_X10_isPerson_17 J_X10_isPerson_18
  rcases pk_ix v (n := tP t) (by omega) with h | h | ⟨p, hp, rfl⟩
  · have e : (v < nI 0) = True := eq_true h
    simp (disch := omega) only [xB_s, xB2_s, xGet_s, xPut_s, xAld_s, xAst_s, xIf_t, xBool_s, l0, l1, l2, l3, l4, l5, l6, l7, l8, l9, l10, l11, l12, l13, l15, l16, l17, l19, l20, l25, l27, l30, l31, l32, l33, l39, l40, l60, l61, l99, l100, l120, l256, l999, l1999, l99999, lm, nI_add, pk_mul, nI_leI, nI_ltI, nI_eq, wuS_1, wuS_2, wuA_1, wuA_21, wuA_22, nI_m1, m1_nI, nIlt_m1, m1lt_nI, Nat.reduceEqDiff, Nat.reduceAdd, Nat.reduceMul, Nat.reduceSub, Nat.reduceLT, Nat.reduceLeDiff, reduceIte, if_true, if_false, Bool.false_eq_true, Nat.add_zero, Nat.zero_add, ne_eq, not_false_eq_true, not_true_eq_false, Nat.not_lt_zero, Nat.add_left_cancel_iff, Nat.add_right_cancel_iff, eq_self, upd_s, pk_sub, nI_pm, Nat.add_sub_cancel, List.length_cons, List.length_nil, Nat.add_eq_zero_iff, Nat.succ_ne_zero, and_false, false_and, l14, l18, l21, l23, l24, l26, l28, l29, l34, l35, l36, l41, l42, l43, l45, l47, l48, l49, l50, l51, l52, l57, l58, l59, l62, l63, l64, l96, l97, l98, l101, l102, l103, l104, l105, l106, l107, l108, l109, l110, l111, l112, l113, l114, l115, l116, l117, l118, l119, l121, l122, l127, l255, l700, l1320, l1000000, e, xBT_e, m_right h0]
    exact bad
  · by_cases hn : v < nI 0
    · have e : (v < nI 0) = True := eq_true hn
      simp (disch := omega) only [xB_s, xB2_s, xGet_s, xPut_s, xAld_s, xAst_s, xIf_t, xBool_s, l0, l1, l2, l3, l4, l5, l6, l7, l8, l9, l10, l11, l12, l13, l15, l16, l17, l19, l20, l25, l27, l30, l31, l32, l33, l39, l40, l60, l61, l99, l100, l120, l256, l999, l1999, l99999, lm, nI_add, pk_mul, nI_leI, nI_ltI, nI_eq, wuS_1, wuS_2, wuA_1, wuA_21, wuA_22, nI_m1, m1_nI, nIlt_m1, m1lt_nI, Nat.reduceEqDiff, Nat.reduceAdd, Nat.reduceMul, Nat.reduceSub, Nat.reduceLT, Nat.reduceLeDiff, reduceIte, if_true, if_false, Bool.false_eq_true, Nat.add_zero, Nat.zero_add, ne_eq, not_false_eq_true, not_true_eq_false, Nat.not_lt_zero, Nat.add_left_cancel_iff, Nat.add_right_cancel_iff, eq_self, upd_s, pk_sub, nI_pm, Nat.add_sub_cancel, List.length_cons, List.length_nil, Nat.add_eq_zero_iff, Nat.succ_ne_zero, and_false, false_and, l14, l18, l21, l23, l24, l26, l28, l29, l34, l35, l36, l41, l42, l43, l45, l47, l48, l49, l50, l51, l52, l57, l58, l59, l62, l63, l64, l96, l97, l98, l101, l102, l103, l104, l105, l106, l107, l108, l109, l110, l111, l112, l113, l114, l115, l116, l117, l118, l119, l121, l122, l127, l255, l700, l1320, l1000000, e, xBT_e, m_right h0]
      exact bad
    · have e : (v < nI 0) = False := eq_false hn
      have e2 : (v < nI (tP t)) = False := eq_false (Int32.not_lt.mpr h)
      have e3 : (nI (tP t) ≤ v) = True := eq_true h
      simp (disch := omega) only [xB_s, xB2_s, xGet_s, xPut_s, xAld_s, xAst_s, xIf_t, xBool_s, l0, l1, l2, l3, l4, l5, l6, l7, l8, l9, l10, l11, l12, l13, l15, l16, l17, l19, l20, l25, l27, l30, l31, l32, l33, l39, l40, l60, l61, l99, l100, l120, l256, l999, l1999, l99999, lm, nI_add, pk_mul, nI_leI, nI_ltI, nI_eq, wuS_1, wuS_2, wuA_1, wuA_21, wuA_22, nI_m1, m1_nI, nIlt_m1, m1lt_nI, Nat.reduceEqDiff, Nat.reduceAdd, Nat.reduceMul, Nat.reduceSub, Nat.reduceLT, Nat.reduceLeDiff, reduceIte, if_true, if_false, Bool.false_eq_true, Nat.add_zero, Nat.zero_add, ne_eq, not_false_eq_true, not_true_eq_false, Nat.not_lt_zero, Nat.add_left_cancel_iff, Nat.add_right_cancel_iff, eq_self, upd_s, pk_sub, nI_pm, Nat.add_sub_cancel, List.length_cons, List.length_nil, Nat.add_eq_zero_iff, Nat.succ_ne_zero, and_false, false_and, l14, l18, l21, l23, l24, l26, l28, l29, l34, l35, l36, l41, l42, l43, l45, l47, l48, l49, l50, l51, l52, l57, l58, l59, l62, l63, l64, l96, l97, l98, l101, l102, l103, l104, l105, l106, l107, l108, l109, l110, l111, l112, l113, l114, l115, l116, l117, l118, l119, l121, l122, l127, l255, l700, l1320, l1000000, e, e2, e3, r1, T.1.1, h1, xBT_e, m_right h0]
      exact bad
  · simp (disch := omega) only [xB_s, xB2_s, xGet_s, xPut_s, xAld_s, xAst_s, xIf_t, xBool_s, l0, l1, l2, l3, l4, l5, l6, l7, l8, l9, l10, l11, l12, l13, l15, l16, l17, l19, l20, l25, l27, l30, l31, l32, l33, l39, l40, l60, l61, l99, l100, l120, l256, l999, l1999, l99999, lm, nI_add, pk_mul, nI_leI, nI_ltI, nI_eq, wuS_1, wuS_2, wuA_1, wuA_21, wuA_22, nI_m1, m1_nI, nIlt_m1, m1lt_nI, Nat.reduceEqDiff, Nat.reduceAdd, Nat.reduceMul, Nat.reduceSub, Nat.reduceLT, Nat.reduceLeDiff, reduceIte, if_true, if_false, Bool.false_eq_true, Nat.add_zero, Nat.zero_add, ne_eq, not_false_eq_true, not_true_eq_false, Nat.not_lt_zero, Nat.add_left_cancel_iff, Nat.add_right_cancel_iff, eq_self, upd_s, pk_sub, nI_pm, Nat.add_sub_cancel, List.length_cons, List.length_nil, Nat.add_eq_zero_iff, Nat.succ_ne_zero, and_false, false_and, l14, l18, l21, l23, l24, l26, l28, l29, l34, l35, l36, l41, l42, l43, l45, l47, l48, l49, l50, l51, l52, l57, l58, l59, l62, l63, l64, l96, l97, l98, l101, l102, l103, l104, l105, l106, l107, l108, l109, l110, l111, l112, l113, l114, l115, l116, l117, l118, l119, l121, l122, l127, l255, l700, l1320, l1000000, r1, T.1.1, h1, xBT_n, m_right h0, show (p < tP t) = True from eq_true hp, show (tP t ≤ p) = False from eq_false (by omega)]
    exact ok p hp rfl
theorem g_duty {γ δ : Type} {t : Tn} {o : wO} {wx w : wS} {v : Int32} {fx : String → Option γ} {kx : Option γ} {fm : Int32 → wS → Option δ} {Q : γ → δ → Prop} (T : XT t o wx) (ho : tOk t) (h1 : w.1 2 = nI (tD t)) (h0 : w.1 0 = nI 0) (bad : R2 (fx cNo) (fm (nI 0) (wuS w 0 (nI 1))) Q) (ok : ∀ p, p < tD t → v = nI p → R2 kx (fm (nI 1) w) Q) : R2 (xBT (L_X9_needDuty o v wx) fx kx) (xB2 (L_X10_isDuty v w) fm) Q := by
  have b1 := ho.2.1
  have r1 := xRef_t T.2.1
  unfold L_X9_needDuty J_X9_needDuty_15 L_X10_isDuty J_X10_isDuty_17 J_X10_isDuty_18
  rcases pk_ix v (n := tD t) (by omega) with h | h | ⟨p, hp, rfl⟩
  · have e : (v < nI 0) = True := eq_true h
    simp (disch := omega) only [xB_s, xB2_s, xGet_s, xPut_s, xAld_s, xAst_s, xIf_t, xBool_s, l0, l1, l2, l3, l4, l5, l6, l7, l8, l9, l10, l11, l12, l13, l15, l16, l17, l19, l20, l25, l27, l30, l31, l32, l33, l39, l40, l60, l61, l99, l100, l120, l256, l999, l1999, l99999, lm, nI_add, pk_mul, nI_leI, nI_ltI, nI_eq, wuS_1, wuS_2, wuA_1, wuA_21, wuA_22, nI_m1, m1_nI, nIlt_m1, m1lt_nI, Nat.reduceEqDiff, Nat.reduceAdd, Nat.reduceMul, Nat.reduceSub, Nat.reduceLT, Nat.reduceLeDiff, reduceIte, if_true, if_false, Bool.false_eq_true, Nat.add_zero, Nat.zero_add, ne_eq, not_false_eq_true, not_true_eq_false, Nat.not_lt_zero, Nat.add_left_cancel_iff, Nat.add_right_cancel_iff, eq_self, upd_s, pk_sub, nI_pm, Nat.add_sub_cancel, List.length_cons, List.length_nil, Nat.add_eq_zero_iff, Nat.succ_ne_zero, and_false, false_and, l14, l18, l21, l23, l24, l26, l28, l29, l34, l35, l36, l41, l42, l43, l45, l47, l48, l49, l50, l51, l52, l57, l58, l59, l62, l63, l64, l96, l97, l98, l101, l102, l103, l104, l105, l106, l107, l108, l109, l110, l111, l112, l113, l114, l115, l116, l117, l118, l119, l121, l122, l127, l255, l700, l1320, l1000000, e, xBT_e, m_right h0]
    exact bad
  · by_cases hn : v < nI 0
    · have e : (v < nI 0) = True := eq_true hn
      simp (disch := omega) only [xB_s, xB2_s, xGet_s, xPut_s, xAld_s, xAst_s, xIf_t, xBool_s, l0, l1, l2, l3, l4, l5, l6, l7, l8, l9, l10, l11, l12, l13, l15, l16, l17, l19, l20, l25, l27, l30, l31, l32, l33, l39, l40, l60, l61, l99, l100, l120, l256, l999, l1999, l99999, lm, nI_add, pk_mul, nI_leI, nI_ltI, nI_eq, wuS_1, wuS_2, wuA_1, wuA_21, wuA_22, nI_m1, m1_nI, nIlt_m1, m1lt_nI, Nat.reduceEqDiff, Nat.reduceAdd, Nat.reduceMul, Nat.reduceSub, Nat.reduceLT, Nat.reduceLeDiff, reduceIte, if_true, if_false, Bool.false_eq_true, Nat.add_zero, Nat.zero_add, ne_eq, not_false_eq_true, not_true_eq_false, Nat.not_lt_zero, Nat.add_left_cancel_iff, Nat.add_right_cancel_iff, eq_self, upd_s, pk_sub, nI_pm, Nat.add_sub_cancel, List.length_cons, List.length_nil, Nat.add_eq_zero_iff, Nat.succ_ne_zero, and_false, false_and, l14, l18, l21, l23, l24, l26, l28, l29, l34, l35, l36, l41, l42, l43, l45, l47, l48, l49, l50, l51, l52, l57, l58, l59, l62, l63, l64, l96, l97, l98, l101, l102, l103, l104, l105, l106, l107, l108, l109, l110, l111, l112, l113, l114, l115, l116, l117, l118, l119, l121, l122, l127, l255, l700, l1320, l1000000, e, xBT_e, m_right h0]
      exact bad
    · have e : (v < nI 0) = False := eq_false hn
      have e2 : (v < nI (tD t)) = False := eq_false (Int32.not_lt.mpr h)
      have e3 : (nI (tD t) ≤ v) = True := eq_true h
      simp (disch := omega) only [xB_s, xB2_s, xGet_s, xPut_s, xAld_s, xAst_s, xIf_t, xBool_s, l0, l1, l2, l3, l4, l5, l6, l7, l8, l9, l10, l11, l12, l13, l15, l16, l17, l19, l20, l25, l27, l30, l31, l32, l33, l39, l40, l60, l61, l99, l100, l120, l256, l999, l1999, l99999, lm, nI_add, pk_mul, nI_leI, nI_ltI, nI_eq, wuS_1, wuS_2, wuA_1, wuA_21, wuA_22, nI_m1, m1_nI, nIlt_m1, m1lt_nI, Nat.reduceEqDiff, Nat.reduceAdd, Nat.reduceMul, Nat.reduceSub, Nat.reduceLT, Nat.reduceLeDiff, reduceIte, if_true, if_false, Bool.false_eq_true, Nat.add_zero, Nat.zero_add, ne_eq, not_false_eq_true, not_true_eq_false, Nat.not_lt_zero, Nat.add_left_cancel_iff, Nat.add_right_cancel_iff, eq_self, upd_s, pk_sub, nI_pm, Nat.add_sub_cancel, List.length_cons, List.length_nil, Nat.add_eq_zero_iff, Nat.succ_ne_zero, and_false, false_and, l14, l18, l21, l23, l24, l26, l28, l29, l34, l35, l36, l41, l42, l43, l45, l47, l48, l49, l50, l51, l52, l57, l58, l59, l62, l63, l64, l96, l97, l98, l101, l102, l103, l104, l105, l106, l107, l108, l109, l110, l111, l112, l113, l114, l115, l116, l117, l118, l119, l121, l122, l127, l255, l700, l1320, l1000000, e, e2, e3, r1, T.1.2.1, h1, xBT_e, m_right h0]
      exact bad
  · simp (disch := omega) only [xB_s, xB2_s, xGet_s, xPut_s, xAld_s, xAst_s, xIf_t, xBool_s, l0, l1, l2, l3, l4, l5, l6, l7, l8, l9, l10, l11, l12, l13, l15, l16, l17, l19, l20, l25, l27, l30, l31, l32, l33, l39, l40, l60, l61, l99, l100, l120, l256, l999, l1999, l99999, lm, nI_add, pk_mul, nI_leI, nI_ltI, nI_eq, wuS_1, wuS_2, wuA_1, wuA_21, wuA_22, nI_m1, m1_nI, nIlt_m1, m1lt_nI, Nat.reduceEqDiff, Nat.reduceAdd, Nat.reduceMul, Nat.reduceSub, Nat.reduceLT, Nat.reduceLeDiff, reduceIte, if_true, if_false, Bool.false_eq_true, Nat.add_zero, Nat.zero_add, ne_eq, not_false_eq_true, not_true_eq_false, Nat.not_lt_zero, Nat.add_left_cancel_iff, Nat.add_right_cancel_iff, eq_self, upd_s, pk_sub, nI_pm, Nat.add_sub_cancel, List.length_cons, List.length_nil, Nat.add_eq_zero_iff, Nat.succ_ne_zero, and_false, false_and, l14, l18, l21, l23, l24, l26, l28, l29, l34, l35, l36, l41, l42, l43, l45, l47, l48, l49, l50, l51, l52, l57, l58, l59, l62, l63, l64, l96, l97, l98, l101, l102, l103, l104, l105, l106, l107, l108, l109, l110, l111, l112, l113, l114, l115, l116, l117, l118, l119, l121, l122, l127, l255, l700, l1320, l1000000, r1, T.1.2.1, h1, xBT_n, m_right h0, show (p < tD t) = True from eq_true hp, show (tD t ≤ p) = False from eq_false (by omega)]
    exact ok p hp rfl
/-- refused, nothing else -/
theorem QA.bad {cd : String → Nat} {wx wm wm' : wS} {E : String} {c : Nat} {v : Int32} (hE : E = cNo ∨ E = cIl) (hc : cd E = c) (q : QM wm wm') : R2 (some ((.inr E : Int32 ⊕ String), wx)) (some (v, wuS wm' 0 (nI c))) (QA cd wx wm) := R2.some ⟨QX.refl, q.S (by decide) (by decide), hE, by rw [hc]; exact wuS_at⟩
theorem cdN_no : cdN cNo = 1 := if_pos rfl
theorem cdN_il : cdN cIl = 2 := if_neg (by decide)
end
section
theorem QA.no {wx wm wm' : wS} {v : Int32} (q : QM wm wm') : R2 (some ((.inr cNo : Int32 ⊕ String), wx)) (some (v, wuS wm' 0 (nI 1))) (QA cdN wx wm) := QA.bad (Or.inl rfl) cdN_no q
theorem QA.il {wx wm wm' : wS} {v : Int32} (q : QM wm wm') : R2 (some ((.inr cIl : Int32 ⊕ String), wx)) (some (v, wuS wm' 0 (nI 2))) (QA cdN wx wm) := QA.bad (Or.inr rfl) cdN_il q
theorem QA.il1 {wx wm wm' : wS} {v : Int32} (q : QM wm wm') : R2 (some ((.inr cIl : Int32 ⊕ String), wx)) (some (v, wuS wm' 0 (nI 1))) (QA cd1 wx wm) := QA.bad (Or.inr rfl) rfl q
theorem QA.ok {cd : String → Nat} {wx wm wx' wm' : wS} {v u : Int32} (h1 : QX wx wx') (h2 : QM wm wm') (h3 : wm'.1 0 = nI 0) (e : u = v) : R2 (some ((.inl v : Int32 ⊕ String), wx')) (some (u, wm')) (QA cd wx wm) := R2.some ⟨h1, h2, h3, e⟩
/-- a question begins -/
theorem PQ.put {t : Tn} {y : Yw} {o : wO} {wx wm : wS} (h : PQ t y o wx wm) : ∃ w1, xPut wm 0 (nI 0) = some w1 ∧ QM wm w1 ∧ w1.1 0 = nI 0 ∧ TM t w1 ∧ YM y (w1.2.1 16) 0 ∧ PQ t y o wx w1 := by
  have q : QM wm (wuS wm 0 (nI 0)) := QM.refl.S (by decide) (by decide)
  have h1 := h.q QX.refl q
  exact ⟨_, xPut_s _ _ _, q, wuS_at, h1.2.2.1, h1.2.2.2.1, h1⟩
end
