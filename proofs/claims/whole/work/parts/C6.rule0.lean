section
/-! ===== rules ===== -/
theorem R2.x3 {α α' α'' β γ : Type} {ox : Option (α × α' × α'')} {kx : α → α' → α'' → Option γ} {om : Option β} {P : α × α' × α'' → Prop} {Q : γ → β → Prop} (h : wpO ox P) (hk : ∀ a a' a'', P (a, a', a'') → R2 (kx a a' a'') om Q) : R2 (xB3 ox kx) om Q := by
  obtain ⟨⟨a, a', a''⟩, rfl, ha⟩ := h
  exact hk a a' a'' ha
theorem xB3_B2 {α α' β γ δ ε : Type} (o : Option (α × α')) (k : α → α' → Option (β × γ × δ)) (f : β → γ → δ → Option ε) : xB3 (xB2 o k) f = xB2 o fun a a' => xB3 (k a a') f := by cases o <;> rfl
theorem wuR_at (w : wS) (k : Nat) (v : Value) : (wuR w k v).2.2.2.2 k = v := if_pos rfl
theorem oNew_0 {o : wO} {m : Nat} : oNew o (nI 0) m = (oT o, oT o + 7 + (if oS o = 0 then 0 else 3), m, oS o, oSn o) := if_pos rfl
theorem oNew_1 {o : wO} {m : Nat} : oNew o (nI 1) m = (oT o, oR o, oRn o, oT o + 7 + (if oR o = 0 then 0 else 3), m) := if_neg (by decide)
theorem wNew_0 {m : Nat} {w : wS} : wNew (nI 0) m w = wuA (wuA w 2001 (va_cpy (w.2.1 4) (fun _ => 0) 0 0 m)) 2002 (fun _ => 0) := by
  unfold wNew
  rw [if_pos (show nI 0 = 0 from rfl)]
theorem wNew_1 {m : Nat} {w : wS} : wNew (nI 1) m w = wuA (wuA w 3001 (va_cpy (w.2.1 4) (fun _ => 0) 0 0 m)) 3002 (fun _ => 0) := by
  unfold wNew
  rw [if_neg (show ¬ nI 1 = 0 by decide)]
theorem eA_cpy {A : Nat → Int32} {E : List Op} (h : eA A 0 E) : ∀ (j : Nat) (x : Op), E[j]? = some x → va_cpy A (fun _ => 0) 0 0 E.length j = xSt x := by
  intro j x hj
  have hl : j < E.length := (List.getElem?_eq_some_iff.mp hj).1
  rw [cpy_at, if_pos (by omega), Nat.sub_zero]
  exact h j x hj
theorem CMr.keep {r : Option (List Op)} {v : Int32} {A A' : Nat → Int32} {m m' : Nat} (h : CMr r v A m) (hm : m ≤ m') (hA : ∀ i, i < m → A' i = A i) : CMr r v A' m' := by
  cases r with
  | none => exact h
  | some E =>
    obtain ⟨k, h1, h2, h3⟩ := h
    refine ⟨k, h1, fun j x hj => ?_, by omega⟩
    have hl : j < (cML E ++ [0]).length := (List.getElem?_eq_some_iff.mp hj).1
    rw [hA (k + j) (by omega)]
    exact h2 j x hj
end
section
/-! ===== a rule's line in step: rings ===== -/
theorem t_rule0 {b : Nat → Nat} {n s m : Nat} {D : Df} {o : wO} {w v : wS} (h : LR b n D m s o w v) (h5 : szT b n s = 5) : R2 (xB3 (L_X2_ruleTold o (nI 0) w) fun x o w' => J_X2_line_151 o x w') (xB (xGet v 27) fun x => if x = (-1) then J_X10_line_201 0 0 v else J_X10_line_201 0 1 v) (LQ b n s o w v) := by
  obtain ⟨⟨tx, tm⟩, hX, hM, hO⟩ := h
  have h107 : w.2.2.2.2 107 = .ref (oT o) := hX.2.2.1.2.1
  have h101 := hX.2.2.1.2.2
  have h13 := hM.2.2.2.2.2
  have h29 := hM.2.2.2.2.1
  have hok := hX.2.2.2.1
  have hcm := hM.2.2.2.1.1
  have hrx := hX.1.2.2.2.2.2.2.1
  have hm2 := hO.2.2.2.2
  have hsn : s ≤ n := tm.2.1
  have hn7 : n ≤ 700 := tx.1.1
  have hs5 : s + 5 ≤ nxT b n s := by
    have := (sk_le (b := b) (n := n) (q := s + szT b n s) (szT_le tx.2.1)).1
    unfold nxT
    omega
  unfold J_X10_line_201
  cases ht : tR D.1 with
  | some E0 =>
    rw [ht] at hcm hrx
    obtain ⟨k, c1, c2, c3⟩ := hcm
    have hk : k < 2000 := by omega
    have e1 : w.2.2.2.2 100009 = .ref (oR o) := hrx.1
    have e2 : ¬ w.2.2.2.2 100009 = .null := by rw [e1]; exact fun q => Value.noConfusion q
    have e3 : xIsR (w.2.2.2.2 100009) = true := by rw [e1]; rfl
    have r0 := xRef_t h107
    unfold L_X2_ruleTold
    simp (disch := omega) only [xB_s, xB2_s, xGet_s, xPut_s, xAld_s, xAst_s, xIf_t, xBool_s, l0, l1, l2, l3, l4, l5, l6, l7, l8, l9, l10, l11, l12, l13, l15, l16, l17, l19, l20, l25, l27, l30, l31, l32, l33, l39, l40, l60, l61, l99, l100, l120, l256, l999, l1999, l99999, lm, nI_add, pk_mul, nI_leI, nI_ltI, nI_eq, wuS_1, wuS_2, wuA_1, wuA_21, wuA_22, nI_m1, m1_nI, nIlt_m1, m1lt_nI, Nat.reduceEqDiff, Nat.reduceAdd, Nat.reduceMul, Nat.reduceSub, Nat.reduceLT, Nat.reduceLeDiff, reduceIte, if_true, if_false, Bool.false_eq_true, Nat.add_zero, Nat.zero_add, ne_eq, not_false_eq_true, not_true_eq_false, Nat.not_lt_zero, Nat.add_left_cancel_iff, Nat.add_right_cancel_iff, eq_self, upd_s, pk_sub, nI_pm, Nat.add_sub_cancel, List.length_cons, List.length_nil, Nat.add_eq_zero_iff, Nat.succ_ne_zero, and_false, false_and, l14, l18, l21, l23, l24, l26, l28, l29, l34, l35, l36, l41, l42, l43, l45, l47, l48, l49, l50, l51, l52, l57, l58, l59, l62, l63, l64, l96, l97, l98, l101, l102, l103, l104, l105, l106, l107, l108, l109, l110, l111, l112, l113, l114, l115, l116, l117, l118, l119, l121, l122, l127, l255, l700, l1320, l1000000, r0, xIf_tt, e2, e3, c1, m_begin5 tm h13]
    rw [xB3_B2]
    refine R2.x2 (x_refuse (k := 5) tx) ?_
    rintro a w1 ⟨g1, g2⟩
    have g1 : a = nI 0 := g1
    simp (disch := omega) only [xB_s, xB2_s, xGet_s, xPut_s, xAld_s, xAst_s, xIf_t, xBool_s, l0, l1, l2, l3, l4, l5, l6, l7, l8, l9, l10, l11, l12, l13, l15, l16, l17, l19, l20, l25, l27, l30, l31, l32, l33, l39, l40, l60, l61, l99, l100, l120, l256, l999, l1999, l99999, lm, nI_add, pk_mul, nI_leI, nI_ltI, nI_eq, wuS_1, wuS_2, wuA_1, wuA_21, wuA_22, nI_m1, m1_nI, nIlt_m1, m1lt_nI, Nat.reduceEqDiff, Nat.reduceAdd, Nat.reduceMul, Nat.reduceSub, Nat.reduceLT, Nat.reduceLeDiff, reduceIte, if_true, if_false, Bool.false_eq_true, Nat.add_zero, Nat.zero_add, ne_eq, not_false_eq_true, not_true_eq_false, Nat.not_lt_zero, Nat.add_left_cancel_iff, Nat.add_right_cancel_iff, eq_self, upd_s, pk_sub, nI_pm, Nat.add_sub_cancel, List.length_cons, List.length_nil, Nat.add_eq_zero_iff, Nat.succ_ne_zero, and_false, false_and, l14, l18, l21, l23, l24, l26, l28, l29, l34, l35, l36, l41, l42, l43, l45, l47, l48, l49, l50, l51, l52, l57, l58, l59, l62, l63, l64, l96, l97, l98, l101, l102, l103, l104, l105, l106, l107, l108, l109, l110, l111, l112, l113, l114, l115, l116, l117, l118, l119, l121, l122, l127, l255, l700, l1320, l1000000, g1]
    exact q_bad (XFr.refl.F g2.1 (by decide) (by decide)) ((FL.refl.S (by decide)).S (by decide)) ⟨rfl, hok⟩ (LF.mk ⟨by decide, by decide⟩ g2)
  | none =>
    rw [ht] at hcm hrx
    have hcm : v.1 27 = mI := hcm
    have hrx : w.2.2.2.2 100009 = .null := hrx
    have ho0 : oR o = 0 := hX.2.2.2.2.1 ht
    simp (disch := omega) only [xB_s, xB2_s, xGet_s, xPut_s, xAld_s, xAst_s, xIf_t, xBool_s, l0, l1, l2, l3, l4, l5, l6, l7, l8, l9, l10, l11, l12, l13, l15, l16, l17, l19, l20, l25, l27, l30, l31, l32, l33, l39, l40, l60, l61, l99, l100, l120, l256, l999, l1999, l99999, lm, nI_add, pk_mul, nI_leI, nI_ltI, nI_eq, wuS_1, wuS_2, wuA_1, wuA_21, wuA_22, nI_m1, m1_nI, nIlt_m1, m1lt_nI, Nat.reduceEqDiff, Nat.reduceAdd, Nat.reduceMul, Nat.reduceSub, Nat.reduceLT, Nat.reduceLeDiff, reduceIte, if_true, if_false, Bool.false_eq_true, Nat.add_zero, Nat.zero_add, ne_eq, not_false_eq_true, not_true_eq_false, Nat.not_lt_zero, Nat.add_left_cancel_iff, Nat.add_right_cancel_iff, eq_self, upd_s, pk_sub, nI_pm, Nat.add_sub_cancel, List.length_cons, List.length_nil, Nat.add_eq_zero_iff, Nat.succ_ne_zero, and_false, false_and, l14, l18, l21, l23, l24, l26, l28, l29, l34, l35, l36, l41, l42, l43, l45, l47, l48, l49, l50, l51, l52, l57, l58, l59, l62, l63, l64, l96, l97, l98, l101, l102, l103, l104, l105, l106, l107, l108, l109, l110, l111, l112, l113, l114, l115, l116, l117, l118, l119, l121, l122, l127, l255, l700, l1320, l1000000, hcm]
    refine R2.x3 (x_told0 tx h5 hrx ho0 h107 h101) ?_
    intro x o' w' q
    refine R2.m2 (m_begin1 tm h13) ?_
    rintro a v1 ⟨g1, g2, g3, g4⟩
    have g1 : a = nI 1 := g1
    have g4 : v1.1 13 = nI 0 := g4
    have g3 : TMk b n (nxT b n s) v1 := g3
    have i29 : v1.1 29 = nI m := (g2.1 29 (by decide)).trans h29
    simp (disch := omega) only [xB_s, xB2_s, xGet_s, xPut_s, xAld_s, xAst_s, xIf_t, xBool_s, l0, l1, l2, l3, l4, l5, l6, l7, l8, l9, l10, l11, l12, l13, l15, l16, l17, l19, l20, l25, l27, l30, l31, l32, l33, l39, l40, l60, l61, l99, l100, l120, l256, l999, l1999, l99999, lm, nI_add, pk_mul, nI_leI, nI_ltI, nI_eq, wuS_1, wuS_2, wuA_1, wuA_21, wuA_22, nI_m1, m1_nI, nIlt_m1, m1lt_nI, Nat.reduceEqDiff, Nat.reduceAdd, Nat.reduceMul, Nat.reduceSub, Nat.reduceLT, Nat.reduceLeDiff, reduceIte, if_true, if_false, Bool.false_eq_true, Nat.add_zero, Nat.zero_add, ne_eq, not_false_eq_true, not_true_eq_false, Nat.not_lt_zero, Nat.add_left_cancel_iff, Nat.add_right_cancel_iff, eq_self, upd_s, pk_sub, nI_pm, Nat.add_sub_cancel, List.length_cons, List.length_nil, Nat.add_eq_zero_iff, Nat.succ_ne_zero, and_false, false_and, l14, l18, l21, l23, l24, l26, l28, l29, l34, l35, l36, l41, l42, l43, l45, l47, l48, l49, l50, l51, l52, l57, l58, l59, l62, l63, l64, l96, l97, l98, l101, l102, l103, l104, l105, l106, l107, l108, l109, l110, l111, l112, l113, l114, l115, l116, l117, l118, l119, l121, l122, l127, l255, l700, l1320, l1000000, g1, i29]
    generalize hV : wuS v1 27 (nI m) = V
    have fV : FL [27] [] v1 V := by rw [← hV]; exact FL.refl.S (by decide)
    have tV : TMk b n (nxT b n s) V := g3.of (fun k k1 k2 => by rw [← hV, wuS_1, if_neg (by omega)]) (by rw [← hV]; rfl) (by rw [← hV]; rfl)
    have v13 : V.1 13 = nI 0 := (fV.1 13 (by decide)).trans g4
    have v29 : V.1 29 = nI m := (fV.1 29 (by decide)).trans i29
    have vK : V.1 27 = nI m := by rw [← hV]; exact wuS_at
    clear hV
    refine R2.m (m_expression (mn := 5) (m := m) (by omega) tV v13 v29 (by omega)) ?_
    rintro v2 ⟨k1, q2⟩
    have hg := pExN_g (b := b) (n := n) (mn := 5) (by decide) (k := 7) (d := 0) (s := nxT b n s) tV.2.1
    have K : FL (27 :: 30 :: 13 :: 14 :: 17 :: 18 :: 19 :: 20 :: 21 :: 22 :: 29 :: 31 :: 32 :: []) mPA v v2 := (g2.mono (by decide) (by simp)).trans ((fV.mono (by decide) (by simp)).trans (k1.mono (by decide) (fun _ h => h)))
    cases e : pExN b n 5 7 0 (nxT b n s) with
    | inl f =>
      rw [e] at q2 hg
      have q : (match pExN b n 5 7 0 (nxT b n s) with
        | .inl f => x = nI 0 ∧ o' = o ∧ Fr [101, 102, 104, 105, 202, 203, 204] [4] w w' ∧ w'.1 101 = nI f.1 ∧ w'.1 102 = nI f.2
        | .inr (E, s') => x = nI 1 ∧ o' = oNew o (nI 0) E.length ∧ ∃ w1, Fr [101, 102, 104, 105, 202, 203, 204] [4] w w1 ∧ TX b n s' w1 ∧ w1.1 101 = nI 0 ∧ eA (w1.2.1 4) 0 E ∧ w' = wuR (wNew (nI 0) E.length w1) 100009 (.ref (oR (oNew o (nI 0) E.length) + 0))) := q
      rw [e] at q
      obtain ⟨q1, q0, q3, q4, q5⟩ : x = nI 0 ∧ o' = o ∧ Fr [101, 102, 104, 105, 202, 203, 204] [4] w w' ∧ w'.1 101 = nI f.1 ∧ w'.1 102 = nI f.2 := q
      subst q0
      subst q1
      have hf : f.1 ≠ 0 ∧ f.1 < 10 := by have := hg.2; omega
      exact q_bad (XFr.refl.F q3 (by decide) (by decide)) (K.mono (by decide) (by decide)) ⟨rfl, hok⟩ ⟨f, hf, q4, q5, q2.1, q2.2⟩
    | inr p =>
      obtain ⟨E, s1⟩ := p
      rw [e] at q2 hg
      have q : (match pExN b n 5 7 0 (nxT b n s) with
        | .inl f => x = nI 0 ∧ o' = o ∧ Fr [101, 102, 104, 105, 202, 203, 204] [4] w w' ∧ w'.1 101 = nI f.1 ∧ w'.1 102 = nI f.2
        | .inr (E, s') => x = nI 1 ∧ o' = oNew o (nI 0) E.length ∧ ∃ w1, Fr [101, 102, 104, 105, 202, 203, 204] [4] w w1 ∧ TX b n s' w1 ∧ w1.1 101 = nI 0 ∧ eA (w1.2.1 4) 0 E ∧ w' = wuR (wNew (nI 0) E.length w1) 100009 (.ref (oR (oNew o (nI 0) E.length) + 0))) := q
      rw [e] at q
      obtain ⟨q1, q0, w1, f1, t1, a1, ea, q5⟩ : x = nI 1 ∧ o' = oNew o (nI 0) E.length ∧ ∃ w1, Fr [101, 102, 104, 105, 202, 203, 204] [4] w w1 ∧ TX b n s1 w1 ∧ w1.1 101 = nI 0 ∧ eA (w1.2.1 4) 0 E ∧ w' = wuR (wNew (nI 0) E.length w1) 100009 (.ref (oR (oNew o (nI 0) E.length) + 0)) := q
      obtain ⟨t2, k3, k4, k5, k6, k7⟩ : TMk b n s1 v2 ∧ v2.1 13 = nI 0 ∧ v2.1 29 = nI (m + (cML E ++ [0]).length) ∧ coA (v2.2.1 13) m (cML E ++ [0]) ∧ (∀ i, i < m → v2.2.1 13 i = V.2.1 13 i) ∧ 2 * (m + (cML E).length) + 2 ≤ 3 * s1 := q2
      obtain ⟨b1, b2, b3, b4⟩ : 1 ≤ E.length ∧ E.length + nxT b n s ≤ s1 ∧ s1 ≤ n ∧ ∀ h r, h + (5 * 7 + 1) ≤ 64 → wfR (h + 1) r → wfR h (E ++ r) := hg
      have hwf : wfR 0 E := by
        have := b4 0 [] (by omega) rfl
        rwa [List.append_nil] at this
      have hok2 : oOk o' := by rw [q0]; exact oNew_ok hok (by rw [if_pos (show nI 0 = 0 from rfl)]; exact ho0)
      rw [oNew_0] at q0 q5
      rw [wNew_0] at q5
      have hx2 : XFr w w' := by rw [q5]; exact (((XFr.refl.F f1 (by decide) (by decide)).A (by decide)).A (by decide)).R (by decide)
      have gS : ∀ k, w'.1 k = w1.1 k := fun k => by rw [q5]; rfl
      have gA : ∀ c, c ≠ 2001 → c ≠ 2002 → w'.2.1 c = w1.2.1 c := fun c n1 n2 => by
        rw [q5, wuR_21, wuA_21, if_neg n2, wuA_21, if_neg n1]
      have gN : w'.2.1 2001 = va_cpy (w1.2.1 4) (fun _ => 0) 0 0 E.length := by
        rw [q5, wuR_21, wuA_21, if_neg (by decide), wuA_21, if_pos rfl]
      have gR : ∀ k, k ≠ 100009 → w'.2.2.2.2 k = w.2.2.2.2 k := fun k n1 => by
        rw [q5, ← f1.2.2]
        exact if_neg n1
      have gV : w'.2.2.2.2 100009 = .ref (oR o' + 0) := by
        rw [q5, q0]
        exact wuR_at _ _ _
      have oo : oT o' = oT o ∧ oS o' = oS o ∧ oSn o' = oSn o ∧ oRn o' = E.length ∧ oR o' ≠ 0 := by
        rw [q0]
        refine ⟨rfl, rfl, rfl, rfl, ?_⟩
        show oT o + 7 + _ ≠ 0
        omega
      clear q5
      have gB : ∀ k, k ∉ [101, 102, 104, 105, 202, 203, 204] → w'.1 k = w.1 k := fun k hk => (gS k).trans (f1.1 k hk)
      have gC : ∀ c, c ≠ 4 → c ≠ 2001 → c ≠ 2002 → w'.2.1 c = w.2.1 c := fun c n0 n1 n2 => (gA c n1 n2).trans (f1.2.1 c (by simp; exact n0))
      have t1' : TX b n s1 w' := t1.of (fun k _ _ => gS k) (gA 3 (by decide) (by decide))
      rw [q1]
      refine q_end (D := ((D.1.1, D.1.2.1, some E, D.1.2.2.2), D.2)) (m := m + (cML E ++ [0]).length) hx2 (K.mono (by decide) (by decide)) oo.1 ⟨⟨t1', t2⟩, ?_, ?_, ?_⟩ (by omega)
      · obtain ⟨⟨x1, x2, x3, x4, x5, x6, x7, x8⟩, ⟨y1, y2, y3⟩, ⟨z1, z2, z3⟩, z4, z5, z6⟩ := hX
        refine ⟨⟨?_, ?_, ?_, ?_, ?_, ?_, ?_, ?_⟩, ⟨?_, ?_, ?_⟩, ⟨?_, ?_, ?_⟩, hok2, ?_, ?_⟩
        · rw [gB 100006 (by decide)]; exact x1
        · rw [gB 100007 (by decide)]; exact x2
        · rw [gB 100008 (by decide)]; exact x3
        · rw [gC 1001 (by decide) (by decide) (by decide)]; exact x4
        · rw [gC 1004 (by decide) (by decide) (by decide)]; exact x5
        · rw [gC 1006 (by decide) (by decide) (by decide)]; exact x6
        · rw [gV, gN]; exact ⟨rfl, oo.2.2.2.2, oo.2.2.2.1, eA_cpy ea⟩
        · rw [gR 100010 (by decide), gC 3001 (by decide) (by decide) (by decide), oo.2.1, oo.2.2.1]; exact x8
        · rw [gC 1002 (by decide) (by decide) (by decide)]; exact y1
        · rw [gC 1003 (by decide) (by decide) (by decide)]; exact y2
        · rw [gC 1005 (by decide) (by decide) (by decide)]; exact y3
        · rw [gB 106 (by decide)]; exact z1
        · rw [gR 107 (by decide), oo.1]; exact z2
        · rw [gS 101]; exact a1
        · exact fun q => by cases q
        · rw [oo.2.1]; exact z6
      · obtain ⟨⟨x1, x2, x3⟩, ⟨y1, y2, y3, y4⟩, z0, ⟨u1, u2⟩, u3, u4⟩ := hM
        have kA : ∀ c, c ∉ mPA → v2.2.1 c = v.2.1 c := fun c hc => K.2.1 c hc
        have kP : ∀ i, i < m → v2.2.1 13 i = v.2.1 13 i := fun i hi => (k6 i hi).trans (by rw [fV.2.1 13 (by simp), g2.2.1 13 (by simp)])
        refine ⟨⟨?_, ?_, ?_⟩, ⟨?_, ?_, ?_, ?_⟩, ?_, ⟨?_, ?_⟩, ?_, ?_⟩
        · rw [K.1 24 (by decide)]; exact x1
        · rw [K.1 25 (by decide)]; exact x2
        · rw [K.1 26 (by decide)]; exact x3
        · rw [kA 8 (by decide)]; exact y1
        · rw [kA 9 (by decide)]; exact y2
        · rw [kA 10 (by decide)]; exact y3
        · rw [kA 11 (by decide)]; exact y4
        · rw [kA 12 (by decide)]; exact z0
        · rw [k1.1 27 (by decide), vK]; exact ⟨m, rfl, k5, Nat.le_refl _⟩
        · rw [K.1 28 (by decide)]; exact u2.keep (by omega) kP
        · exact k4
        · exact k3
      · obtain ⟨⟨o1, o2, o3, o4, o5, o6, o7, o8, o9⟩, p1, p2, p3, p4⟩ := hO
        exact ⟨⟨o1, o2, o3, o4, o5, o6, o7, fun s hs => ⟨by rw [← Option.some.inj hs]; exact hwf, by rw [← Option.some.inj hs]; omega⟩, o9⟩, p1, p2, p3, by rw [List.length_append]; show 2 * (m + ((cML E).length + 1)) ≤ 3 * s1; omega⟩
end
