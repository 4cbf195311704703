section
/-! ===== the lines of a text ===== -/
theorem sgn_n0 : ∀ c, c < 256 → sgnB c = true → c ≠ 0 := by decide +kernel
theorem srT_0 {b : Nat → Nat} {n s : Nat} : srT b n s = 0 ↔ n ≤ s := by
  unfold srT
  by_cases h1 : n ≤ s
  · rw [if_pos h1]; exact ⟨fun _ => h1, fun _ => rfl⟩
  · rw [if_neg h1]
    refine ⟨fun h => ?_, fun h => absurd h h1⟩
    exfalso
    split at h
    · omega
    · split at h
      · omega
      · split at h <;> omega
theorem kd_0 {b : Nat → Nat} {n s : Nat} (hb : ∀ i, i < n → b i < 256) : kd b n s = 0 ↔ n ≤ s := by
  unfold kd
  by_cases h1 : n ≤ s
  · rw [if_pos h1]; exact ⟨fun _ => h1, fun _ => rfl⟩
  · rw [if_neg h1]
    refine ⟨fun h => ?_, fun h => absurd h h1⟩
    exfalso
    split at h
    · omega
    · split at h
      · omega
      · split at h
        · rename_i q
          exact sgn_n0 _ (hb s (by omega)) q h
        · omega
/-- what reading ends with -/
def LE (b : Nat → Nat) (n : Nat) (o : wO) (w v : wS) (r : Value × wO × wS) (v' : wS) : Prop := (XFr w r.2.2 ∧ FL lMK lMA v v') ∧ (oT r.2.1 = oT o ∧ oOk r.2.1) ∧ ((r.2.2.1 101 = nI 0 → r.2.2.1 102 = mI) ∧ (v'.1 13 = nI 0 → v'.1 14 = mI)) ∧ ((r.1 = .null ∧ LF r.2.2 v') ∨ (r.1 = .ref (oT o) ∧ ∃ D' m' s', LR b n D' m' s' r.2.1 r.2.2 v'))
theorem xB3_s {α β δ γ : Type} (a : α) (c : β) (d : δ) (k : α → β → δ → Option γ) : xB3 (some (a, c, d)) k = k a c d := rfl
theorem oOkB_t {o o' : wO} (h : oT o' = oT o) (h' : oOk o') : oOkB o o' = true := decide_eq_true ⟨h, h'⟩
theorem R2.fst3 {α α' α'' β γ : Type} {ox : Option (α × α' × α'')} {kx : α → α' → α'' → Option γ} {om : Option β} {Q : γ → β → Prop} (h : R2 ox om (fun r c => R2 (kx r.1 r.2.1 r.2.2) (Option.some c) Q)) : R2 (xB3 ox kx) om Q := by
  obtain ⟨⟨a, a', a''⟩, c, rfl, rfl, h⟩ := h
  exact h
theorem R2.fst {α β γ : Type} {ox : Option α} {kx : α → Option γ} {om : Option β} {Q : γ → β → Prop} (h : R2 ox om (fun r c => R2 (kx r) (Option.some c) Q)) : R2 (xB ox kx) om Q := by
  obtain ⟨a, c, rfl, rfl, h⟩ := h
  exact h
theorem xRead_s {k : Nat} {i : Int32} {o : wO} {w : wS} : xRead (k + 1) i o w = xRead1 (fun i o w => xRead k i o w) i o w := rfl
theorem pRead_s {ke : wS → Option (Int32 × wS)} {k : Nat} {v : wS} : P_X10_town_119 ke (k + 1) v = B_X10_town_119 (fun w => P_X10_town_119 ke k w) ke v := rfl
theorem pRead_bad {ke : wS → Option (Int32 × wS)} {k f : Nat} {v : wS} (h : v.1 13 = nI f) (h1 : f ≠ 0) (h2 : f < 10) : P_X10_town_119 ke (k + 1) v = ke v := by
  rw [pRead_s]
  unfold B_X10_town_119
  simp (disch := omega) only [xB_s, xB2_s, xGet_s, xPut_s, xAld_s, xAst_s, xIf_t, xBool_s, l0, l1, l2, l3, l4, l5, l6, l7, l8, l9, l10, l11, l12, l13, l15, l16, l17, l19, l20, l25, l27, l30, l31, l32, l33, l39, l40, l60, l61, l99, l100, l120, l256, l999, l1999, l99999, lm, nI_add, pk_mul, nI_leI, nI_ltI, nI_eq, wuS_1, wuS_2, wuA_1, wuA_21, wuA_22, nI_m1, m1_nI, nIlt_m1, m1lt_nI, Nat.reduceEqDiff, Nat.reduceAdd, Nat.reduceMul, Nat.reduceSub, Nat.reduceLT, Nat.reduceLeDiff, reduceIte, if_true, if_false, Bool.false_eq_true, Nat.add_zero, Nat.zero_add, ne_eq, not_false_eq_true, not_true_eq_false, Nat.not_lt_zero, Nat.add_left_cancel_iff, Nat.add_right_cancel_iff, eq_self, upd_s, pk_sub, nI_pm, Nat.add_sub_cancel, List.length_cons, List.length_nil, Nat.add_eq_zero_iff, Nat.succ_ne_zero, and_false, false_and, l14, l18, l21, l23, l24, l26, l28, l29, l34, l35, l36, l41, l42, l43, l45, l47, l48, l49, l50, l51, l52, l57, l58, l59, l62, l63, l64, l96, l97, l98, l101, l102, l103, l104, l105, l106, l107, l108, l109, l110, l111, l112, l113, l114, l115, l116, l117, l118, l119, l121, l122, l127, l255, l700, l1320, l1000000, m_ngood h h1 h2]
theorem t_read {b : Nat → Nat} {n : Nat} {o : wO} {w v : wS} {ke : wS → Option (Int32 × wS)} {Q : Value × wO × wS → Int32 × wS → Prop} (hk : ∀ r v', LE b n o w v r v' → R2 (some r) (ke v') Q) : ∀ (N fx fm i s m : Nat) (D : Df) (o1 : wO) (w1 v1 : wS), N + i = 700 → i ≤ s → LR b n D m s o1 w1 v1 → XFr w w1 → FL lMK lMA v v1 → oT o1 = oT o → (w1.1 101 = nI 0 → w1.1 102 = mI) → (v1.1 13 = nI 0 → v1.1 14 = mI) → R2 (xRead (fx + (N + 1)) (nI i) o1 w1) (P_X10_town_119 ke (fm + (N + 2)) v1) Q := by
  intro N
  induction N with
  | zero =>
    intro fx fm i s1 m1 D1 o1 w1 v1 hN his hL f1 f2 ho jx jm
    obtain ⟨⟨tx, tm⟩, hX, hM, hO⟩ := hL
    have h13 := hM.2.2.2.2.2
    have eg := m_good h13
    have r0 : xRef w1 107 (oT o1) = true := xRef_t hX.2.2.1.2.1
    have hn : n ≤ 700 := tx.1.1
    have q2 := (srT_0 (b := b) (n := n) (s := s1)).2 (by omega)
    have fin : R2 (some (Value.ref (oT o1 + 0), o1, w1)) (ke v1) Q := hk _ _ ⟨⟨f1, f2⟩, ⟨ho, hX.2.2.2.1⟩, ⟨jx, jm⟩, Or.inr ⟨by show Value.ref (oT o1 + 0) = _; rw [Nat.add_zero, ho], D1, m1, s1, ⟨tx, tm⟩, hX, hM, hO⟩⟩
    rw [show fx + (0 + 1) = fx + 0 + 1 from rfl, show fm + (0 + 2) = fm + 1 + 1 from rfl, xRead_s, pRead_s]
    unfold xRead1 B_X10_town_119 xEnd
    have hi7 : 700 ≤ i := by omega
    simp (disch := omega) only [xB_s, xB2_s, xGet_s, xPut_s, xAld_s, xAst_s, xIf_t, xBool_s, l0, l1, l2, l3, l4, l5, l6, l7, l8, l9, l10, l11, l12, l13, l15, l16, l17, l19, l20, l25, l27, l30, l31, l32, l33, l39, l40, l60, l61, l99, l100, l120, l256, l999, l1999, l99999, lm, nI_add, pk_mul, nI_leI, nI_ltI, nI_eq, wuS_1, wuS_2, wuA_1, wuA_21, wuA_22, nI_m1, m1_nI, nIlt_m1, m1lt_nI, Nat.reduceEqDiff, Nat.reduceAdd, Nat.reduceMul, Nat.reduceSub, Nat.reduceLT, Nat.reduceLeDiff, reduceIte, if_true, if_false, Bool.false_eq_true, Nat.add_zero, Nat.zero_add, ne_eq, not_false_eq_true, not_true_eq_false, Nat.not_lt_zero, Nat.add_left_cancel_iff, Nat.add_right_cancel_iff, eq_self, upd_s, pk_sub, nI_pm, Nat.add_sub_cancel, List.length_cons, List.length_nil, Nat.add_eq_zero_iff, Nat.succ_ne_zero, and_false, false_and, l14, l18, l21, l23, l24, l26, l28, l29, l34, l35, l36, l41, l42, l43, l45, l47, l48, l49, l50, l51, l52, l57, l58, l59, l62, l63, l64, l96, l97, l98, l101, l102, l103, l104, l105, l106, l107, l108, l109, l110, l111, l112, l113, l114, l115, l116, l117, l118, l119, l121, l122, l127, l255, l700, l1320, l1000000, eg, r0, xIf_tt, tm.2.2.2.1, q2, hi7]
    exact fin
  | succ N ih =>
    intro fx fm i s1 m1 D1 o1 w1 v1 hN his hL f1 f2 ho jx jm
    have hL0 := hL
    obtain ⟨⟨tx, tm⟩, hX, hM, hO⟩ := hL
    have h13 := hM.2.2.2.2.2
    have eg := m_good h13
    have r0 : xRef w1 107 (oT o1) = true := xRef_t hX.2.2.1.2.1
    have hb : ∀ i, i < n → b i < 256 := fun i hi => (tx.1.2.2 i hi).1
    have k0 := kd_0 (s := s1) hb
    have z0 := srT_0 (b := b) (n := n) (s := s1)
    have hn : n ≤ 700 := tx.1.1
    have hsn : s1 ≤ n := tx.2.1
    have hkl := kd_lt (s := s1) hb
    have hsl := srT_lt b n s1
    have hi7 : ¬ 700 ≤ i := by omega
    have fin : R2 (some (Value.ref (oT o1 + 0), o1, w1)) (ke v1) Q := hk _ _ ⟨⟨f1, f2⟩, ⟨ho, hX.2.2.2.1⟩, ⟨jx, jm⟩, Or.inr ⟨by show Value.ref (oT o1 + 0) = _; rw [Nat.add_zero, ho], D1, m1, s1, ⟨tx, tm⟩, hX, hM, hO⟩⟩
    rw [show fx + (N + 1 + 1) = fx + (N + 1) + 1 from rfl, show fm + (N + 1 + 2) = fm + (N + 2) + 1 from rfl, xRead_s, pRead_s]
    unfold xRead1 B_X10_town_119 xEnd
    by_cases hend : n ≤ s1
    · have q1 := k0.2 hend
      have q2 := z0.2 hend
      simp (disch := omega) only [xB_s, xB2_s, xGet_s, xPut_s, xAld_s, xAst_s, xIf_t, xBool_s, l0, l1, l2, l3, l4, l5, l6, l7, l8, l9, l10, l11, l12, l13, l15, l16, l17, l19, l20, l25, l27, l30, l31, l32, l33, l39, l40, l60, l61, l99, l100, l120, l256, l999, l1999, l99999, lm, nI_add, pk_mul, nI_leI, nI_ltI, nI_eq, wuS_1, wuS_2, wuA_1, wuA_21, wuA_22, nI_m1, m1_nI, nIlt_m1, m1lt_nI, Nat.reduceEqDiff, Nat.reduceAdd, Nat.reduceMul, Nat.reduceSub, Nat.reduceLT, Nat.reduceLeDiff, reduceIte, if_true, if_false, Bool.false_eq_true, Nat.add_zero, Nat.zero_add, ne_eq, not_false_eq_true, not_true_eq_false, Nat.not_lt_zero, Nat.add_left_cancel_iff, Nat.add_right_cancel_iff, eq_self, upd_s, pk_sub, nI_pm, Nat.add_sub_cancel, List.length_cons, List.length_nil, Nat.add_eq_zero_iff, Nat.succ_ne_zero, and_false, false_and, l14, l18, l21, l23, l24, l26, l28, l29, l34, l35, l36, l41, l42, l43, l45, l47, l48, l49, l50, l51, l52, l57, l58, l59, l62, l63, l64, l96, l97, l98, l101, l102, l103, l104, l105, l106, l107, l108, l109, l110, l111, l112, l113, l114, l115, l116, l117, l118, l119, l121, l122, l127, l255, l700, l1320, l1000000, eg, r0, xIf_tt, tx.2.2.1, tm.2.2.2.1, q1, q2, hi7]
      exact fin
    · have q1 : ¬ kd b n s1 = 0 := fun q => hend (k0.1 q)
      have q2 : ¬ srT b n s1 = 0 := fun q => hend (z0.1 q)
      simp (disch := omega) only [xB_s, xB2_s, xGet_s, xPut_s, xAld_s, xAst_s, xIf_t, xBool_s, l0, l1, l2, l3, l4, l5, l6, l7, l8, l9, l10, l11, l12, l13, l15, l16, l17, l19, l20, l25, l27, l30, l31, l32, l33, l39, l40, l60, l61, l99, l100, l120, l256, l999, l1999, l99999, lm, nI_add, pk_mul, nI_leI, nI_ltI, nI_eq, wuS_1, wuS_2, wuA_1, wuA_21, wuA_22, nI_m1, m1_nI, nIlt_m1, m1lt_nI, Nat.reduceEqDiff, Nat.reduceAdd, Nat.reduceMul, Nat.reduceSub, Nat.reduceLT, Nat.reduceLeDiff, reduceIte, if_true, if_false, Bool.false_eq_true, Nat.add_zero, Nat.zero_add, ne_eq, not_false_eq_true, not_true_eq_false, Nat.not_lt_zero, Nat.add_left_cancel_iff, Nat.add_right_cancel_iff, eq_self, upd_s, pk_sub, nI_pm, Nat.add_sub_cancel, List.length_cons, List.length_nil, Nat.add_eq_zero_iff, Nat.succ_ne_zero, and_false, false_and, l14, l18, l21, l23, l24, l26, l28, l29, l34, l35, l36, l41, l42, l43, l45, l47, l48, l49, l50, l51, l52, l57, l58, l59, l62, l63, l64, l96, l97, l98, l101, l102, l103, l104, l105, l106, l107, l108, l109, l110, l111, l112, l113, l114, l115, l116, l117, l118, l119, l121, l122, l127, l255, l700, l1320, l1000000, eg, tx.2.2.1, tm.2.2.2.1, q1, q2, hi7]
      obtain ⟨⟨a, o2, w2⟩, v2, e1, e2, hq⟩ := t_line hL0
      obtain ⟨⟨g1, g2⟩, ⟨g3, g4⟩, g5⟩ : LQ b n s1 o1 w1 v1 (a, o2, w2) v2 := hq
      have g1 : XFr w1 w2 := g1
      have g3 : oT o2 = oT o1 := g3
      have g4 : oOk o2 := g4
      have jx2 : w2.1 101 = nI 0 → w2.1 102 = mI := (j_L_X2_line (w0 := w1) (fun q => q)).1 _ e1 jx
      have jm2 : v2.1 13 = nI 0 → v2.1 14 = mI := (j_L_X10_line (w0 := v1) (fun q => q)).1 _ e2 jm
      rw [e1, e2, xB_s, xB3_s, oOkB_t g3 g4, xIf_tt]
      rcases g5 with ⟨g5, g6⟩ | ⟨g5, D2, m2, s2, g6, g7⟩
      · have g5 : a = nI 0 := g5
        have g6 : LF w2 v2 := g6
        have e3 : R2 (some (Value.null, o2, w2)) (ke v2) Q := hk _ _ ⟨⟨f1.trans g1, f2.trans g2⟩, ⟨g3.trans ho, g4⟩, ⟨jx2, jm2⟩, Or.inl ⟨rfl, g6⟩⟩
        obtain ⟨f, ⟨u1, u2⟩, _, _, u3, _⟩ := g6
        rw [show fm + (N + 2) = fm + (N + 1) + 1 from rfl, pRead_bad u3 u1 u2, g5, if_pos rfl]
        exact e3
      · have g5 : a = nI 1 := g5
        have g6 : LR b n D2 m2 s2 o2 w2 v2 := g6
        rw [g5, if_neg (by decide)]
        exact ih fx fm (i + 1) s2 m2 D2 o2 w2 v2 (by omega) (by omega) g6 (f1.trans g1) (f2.trans g2) (g3.trans ho) jx2 jm2
end
