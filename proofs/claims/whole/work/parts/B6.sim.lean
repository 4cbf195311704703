section
theorem cML_no : ∀ j, cML (List.replicate j (2, 0)) = List.replicate j 3
  | 0 => rfl
  | j + 1 => by
    show [3] ++ cML (List.replicate j (2, 0)) = 3 :: List.replicate j 3
    rw [cML_no j]; rfl
abbrev nB (g : Nat) : (Int32 × Int32 × wS → Option wS) → Int32 × Int32 × wS → Option wS := fun kk σ => B_X10_operand_18 (fun x2 x4 w => kk (x2, x4, w)) (fun z28 w29 => J_X10_operand_75 (fun x2 x3 w => xLoop oB g (x2, x3, w)) (fun w32 => J_X10_operand_120 w32) z28 w29) σ.1 σ.2.1 σ.2.2
theorem eOP_1 {g f : Nat} {w : wS} (h : w.1 13 = nI 0) : eOP (g + 1) (nI 1) f w = xB (xLoop (nB g) 5000 (nI 1, nI 0, w)) fun w' => eLP f w' := by
  unfold eOP
  show xB (B_X10_operand_4 (fun x2 x3 w => xLoop oB g (x2, x3, w)) (fun w32 => J_X10_operand_120 w32) (nI 1) (nI 1) w) _ = _
  unfold B_X10_operand_4 P_X10_operand_18
  have e := m_good h
  simp (disch := omega) only [xB_s, xB2_s, xGet_s, xPut_s, xAld_s, xAst_s, xIf_t, xBool_s, l0, l1, l2, l3, l4, l5, l6, l7, l8, l9, l10, l11, l12, l13, l15, l16, l17, l19, l20, l25, l27, l30, l31, l32, l33, l39, l40, l60, l61, l99, l100, l120, l256, l999, l1999, l99999, lm, nI_add, pk_mul, nI_leI, nI_ltI, nI_eq, wuS_1, wuS_2, wuA_1, wuA_21, wuA_22, nI_m1, m1_nI, nIlt_m1, m1lt_nI, Nat.reduceEqDiff, Nat.reduceAdd, Nat.reduceMul, Nat.reduceSub, Nat.reduceLT, Nat.reduceLeDiff, reduceIte, if_true, if_false, Bool.false_eq_true, Nat.add_zero, Nat.zero_add, ne_eq, not_false_eq_true, not_true_eq_false, Nat.not_lt_zero, Nat.add_left_cancel_iff, Nat.add_right_cancel_iff, eq_self, upd_s, pk_sub, nI_pm, Nat.add_sub_cancel, List.length_cons, List.length_nil, Nat.add_eq_zero_iff, Nat.succ_ne_zero, and_false, false_and, l14, l18, l21, l23, l24, l26, l28, l29, l34, l35, l36, l41, l42, l43, l45, l47, l48, l49, l50, l51, l52, l57, l58, l59, l62, l63, l64, l96, l97, l98, l101, l102, l103, l104, l105, l106, l107, l108, l109, l110, l111, l112, l113, l114, l115, l116, l117, l118, l119, l121, l122, l127, l255, l700, l1320, l1000000, e]
section
variable {b : Nat → Nat} {n mn m : Nat} {w0 : wS} {pr : Nat → Nat → Res} {d B : Nat}
theorem simNots (hmn : mn = 5 ∨ mn = 6) (hB1 : 1 ≤ B) (hgr : ∀ s, s ≤ n → gR b n s B (pr (d + 1) s)) (hI : hIn b n mn m w0 pr d) {Q : wS → Prop} {C T : List Nat} {tb : Nat → Nat} {g : Nat} {f : Nat} (ht0 : tb (d + 1) = 0) (hT : eTT 3 T) : ∀ (k j s h : Nat) (w : wS), MS b n mn m w0 s C (List.replicate j 3 ++ T) d tb w → eBO m s C (List.replicate j 3 ++ T) → 702 ≤ g + s → 702 ≤ f + s → j ≤ 6 → 8 ≤ k + j → 20 ≤ h + j → eKO b n mn m w0 Q (pNots b n mn pr d k j s) 3 C T d tb → wpO (xB (xLoop (nB g) h (nI 1, nI j, w)) fun w' => eLP f w') Q
  | 0, j, s, h, w, _, _, _, _, hj, hk, _, _ => by omega
  | k + 1, j, s, h, w, hm, hB, hg, hf, hj, hk, hh, hK => by
    have h1 := hm.1
    have h7 := hm.n7
    have eg := m_good hm.2.1.1
    have ek := m_known h1
    obtain ⟨hb1, hb2⟩ := hB
    have hl : (List.replicate j 3 ++ T).length = j + T.length := by rw [List.length_append, List.length_replicate]
    obtain ⟨h, rfl⟩ : ∃ x, h = x + 1 := ⟨h - 1, by omega⟩
    show wpO (xB (B_X10_operand_18 (fun x2 x4 w => xLoop (nB g) h (x2, x4, w)) _ (nI 1) (nI j) w) fun w' => eLP f w') Q
    unfold B_X10_operand_18 J_X10_operand_50
    by_cases hw : kw b n s = some 15
    · rw [hw] at ek
      have hlt := kw_in hw
      have hnx := nxT_lt (b := b) hlt
      have hnx2 := (nxT_le (b := b) h7.1).2
      by_cases q6 : j = 6
      · rw [pNots_6 hw q6] at hK
        have hM := hm.bad (k := 2) (by omega) (by omega) (by omega)
        have hz := hM.g
        simp (disch := omega) only [xB_s, xB2_s, xGet_s, xPut_s, xAld_s, xAst_s, xIf_t, xBool_s, l0, l1, l2, l3, l4, l5, l6, l7, l8, l9, l10, l11, l12, l13, l15, l16, l17, l19, l20, l25, l27, l30, l31, l32, l33, l39, l40, l60, l61, l99, l100, l120, l256, l999, l1999, l99999, lm, nI_add, pk_mul, nI_leI, nI_ltI, nI_eq, wuS_1, wuS_2, wuA_1, wuA_21, wuA_22, nI_m1, m1_nI, nIlt_m1, m1lt_nI, Nat.reduceEqDiff, Nat.reduceAdd, Nat.reduceMul, Nat.reduceSub, Nat.reduceLT, Nat.reduceLeDiff, reduceIte, if_true, if_false, Bool.false_eq_true, Nat.add_zero, Nat.zero_add, ne_eq, not_false_eq_true, not_true_eq_false, Nat.not_lt_zero, Nat.add_left_cancel_iff, Nat.add_right_cancel_iff, eq_self, upd_s, pk_sub, nI_pm, Nat.add_sub_cancel, List.length_cons, List.length_nil, Nat.add_eq_zero_iff, Nat.succ_ne_zero, and_false, false_and, l14, l18, l21, l23, l24, l26, l28, l29, l34, l35, l36, l41, l42, l43, l45, l47, l48, l49, l50, l51, l52, l57, l58, l59, l62, l63, l64, l96, l97, l98, l101, l102, l103, l104, l105, l106, l107, l108, l109, l110, l111, l112, l113, l114, l115, l116, l117, l118, l119, l121, l122, l127, l255, l700, l1320, l1000000, eg, ek, oI_s, q6, m_wrong hm.2.1.1, hz]
        obtain ⟨h, rfl⟩ : ∃ x, h = x + 1 := ⟨h - 1, by omega⟩
        show wpO (xB (B_X10_operand_18 (fun x2 x4 w => xLoop (nB g) h (x2, x4, w)) (fun z28 w29 => J_X10_operand_75 (fun x2 x3 w => xLoop oB g (x2, x3, w)) (fun w32 => J_X10_operand_120 w32) z28 w29) (nI 1) (nI 7) _) fun w' => eLP f w') Q
        obtain ⟨g, rfl⟩ : ∃ x, g = x + 1 := ⟨g - 1, by omega⟩
        unfold B_X10_operand_18 J_X10_operand_75 J_X10_operand_95 J_X10_operand_96 J_X10_operand_117
        simp (disch := omega) only [xB_s, xB2_s, xGet_s, xPut_s, xAld_s, xAst_s, xIf_t, xBool_s, l0, l1, l2, l3, l4, l5, l6, l7, l8, l9, l10, l11, l12, l13, l15, l16, l17, l19, l20, l25, l27, l30, l31, l32, l33, l39, l40, l60, l61, l99, l100, l120, l256, l999, l1999, l99999, lm, nI_add, pk_mul, nI_leI, nI_ltI, nI_eq, wuS_1, wuS_2, wuA_1, wuA_21, wuA_22, nI_m1, m1_nI, nIlt_m1, m1lt_nI, Nat.reduceEqDiff, Nat.reduceAdd, Nat.reduceMul, Nat.reduceSub, Nat.reduceLT, Nat.reduceLeDiff, reduceIte, if_true, if_false, Bool.false_eq_true, Nat.add_zero, Nat.zero_add, ne_eq, not_false_eq_true, not_true_eq_false, Nat.not_lt_zero, Nat.add_left_cancel_iff, Nat.add_right_cancel_iff, eq_self, upd_s, pk_sub, nI_pm, Nat.add_sub_cancel, List.length_cons, List.length_nil, Nat.add_eq_zero_iff, Nat.succ_ne_zero, and_false, false_and, l14, l18, l21, l23, l24, l26, l28, l29, l34, l35, l36, l41, l42, l43, l45, l47, l48, l49, l50, l51, l52, l57, l58, l59, l62, l63, l64, l96, l97, l98, l101, l102, l103, l104, l105, l106, l107, l108, l109, l110, l111, l112, l113, l114, l115, l116, l117, l118, l119, l121, l122, l127, l255, l700, l1320, l1000000, hz, oB_0]
        unfold J_X10_operand_120 L_X10_part
        simp (disch := omega) only [xB_s, xB2_s, xGet_s, xPut_s, xAld_s, xAst_s, xIf_t, xBool_s, l0, l1, l2, l3, l4, l5, l6, l7, l8, l9, l10, l11, l12, l13, l15, l16, l17, l19, l20, l25, l27, l30, l31, l32, l33, l39, l40, l60, l61, l99, l100, l120, l256, l999, l1999, l99999, lm, nI_add, pk_mul, nI_leI, nI_ltI, nI_eq, wuS_1, wuS_2, wuA_1, wuA_21, wuA_22, nI_m1, m1_nI, nIlt_m1, m1lt_nI, Nat.reduceEqDiff, Nat.reduceAdd, Nat.reduceMul, Nat.reduceSub, Nat.reduceLT, Nat.reduceLeDiff, reduceIte, if_true, if_false, Bool.false_eq_true, Nat.add_zero, Nat.zero_add, ne_eq, not_false_eq_true, not_true_eq_false, Nat.not_lt_zero, Nat.add_left_cancel_iff, Nat.add_right_cancel_iff, eq_self, upd_s, pk_sub, nI_pm, Nat.add_sub_cancel, List.length_cons, List.length_nil, Nat.add_eq_zero_iff, Nat.succ_ne_zero, and_false, false_and, l14, l18, l21, l23, l24, l26, l28, l29, l34, l35, l36, l41, l42, l43, l45, l47, l48, l49, l50, l51, l52, l57, l58, l59, l62, l63, l64, l96, l97, l98, l101, l102, l103, l104, l105, l106, l107, l108, l109, l110, l111, l112, l113, l114, l115, l116, l117, l118, l119, l121, l122, l127, l255, l700, l1320, l1000000, hz]
        exact hK _ f hM (by omega)
      · rw [pNots_y hw q6] at hK
        simp (disch := omega) only [xB_s, xB2_s, xGet_s, xPut_s, xAld_s, xAst_s, xIf_t, xBool_s, l0, l1, l2, l3, l4, l5, l6, l7, l8, l9, l10, l11, l12, l13, l15, l16, l17, l19, l20, l25, l27, l30, l31, l32, l33, l39, l40, l60, l61, l99, l100, l120, l256, l999, l1999, l99999, lm, nI_add, pk_mul, nI_leI, nI_ltI, nI_eq, wuS_1, wuS_2, wuA_1, wuA_21, wuA_22, nI_m1, m1_nI, nIlt_m1, m1lt_nI, Nat.reduceEqDiff, Nat.reduceAdd, Nat.reduceMul, Nat.reduceSub, Nat.reduceLT, Nat.reduceLeDiff, reduceIte, if_true, if_false, Bool.false_eq_true, Nat.add_zero, Nat.zero_add, ne_eq, not_false_eq_true, not_true_eq_false, Nat.not_lt_zero, Nat.add_left_cancel_iff, Nat.add_right_cancel_iff, eq_self, upd_s, pk_sub, nI_pm, Nat.add_sub_cancel, List.length_cons, List.length_nil, Nat.add_eq_zero_iff, Nat.succ_ne_zero, and_false, false_and, l14, l18, l21, l23, l24, l26, l28, l29, l34, l35, l36, l41, l42, l43, l45, l47, l48, l49, l50, l51, l52, l57, l58, l59, l62, l63, l64, l96, l97, l98, l101, l102, l103, l104, l105, l106, l107, l108, l109, l110, l111, l112, l113, l114, l115, l116, l117, l118, l119, l121, l122, l127, l255, l700, l1320, l1000000, eg, ek, oI_s, q6]
        rw [m_waits hm.2.2.2.1.1 (by omega), xB_s, xB_as]
        have g2 := hm.push (x := 3) (by omega) (by omega)
        refine wp_B (m_goesT g2.1) ?_
        rintro w3 ⟨F3, T3⟩
        have g3 := g2.to F3 T3
        exact simNots hmn hB1 hgr hI ht0 hT k (j + 1) (nxT b n s) h w3 g3 ⟨by rw [List.length_append, List.length_replicate]; omega, by rw [List.length_append, List.length_replicate]; omega⟩ (by omega) (by omega) (by omega) (by omega) (by omega) hK
    · rw [pNots_n hw] at hK
      have n15 : (oI (kw b n s) = nI 15) = False := eq_false (fun z => hw ((oI_eqI (fun p hp => by have := kw_lt hp; omega) (fun p hp => by cases hp; omega)).mp (z.trans (oI_s 15).symm)))
      simp (disch := omega) only [xB_s, xB2_s, xGet_s, xPut_s, xAld_s, xAst_s, xIf_t, xBool_s, l0, l1, l2, l3, l4, l5, l6, l7, l8, l9, l10, l11, l12, l13, l15, l16, l17, l19, l20, l25, l27, l30, l31, l32, l33, l39, l40, l60, l61, l99, l100, l120, l256, l999, l1999, l99999, lm, nI_add, pk_mul, nI_leI, nI_ltI, nI_eq, wuS_1, wuS_2, wuA_1, wuA_21, wuA_22, nI_m1, m1_nI, nIlt_m1, m1lt_nI, Nat.reduceEqDiff, Nat.reduceAdd, Nat.reduceMul, Nat.reduceSub, Nat.reduceLT, Nat.reduceLeDiff, reduceIte, if_true, if_false, Bool.false_eq_true, Nat.add_zero, Nat.zero_add, ne_eq, not_false_eq_true, not_true_eq_false, Nat.not_lt_zero, Nat.add_left_cancel_iff, Nat.add_right_cancel_iff, eq_self, upd_s, pk_sub, nI_pm, Nat.add_sub_cancel, List.length_cons, List.length_nil, Nat.add_eq_zero_iff, Nat.succ_ne_zero, and_false, false_and, l14, l18, l21, l23, l24, l26, l28, l29, l34, l35, l36, l41, l42, l43, l45, l47, l48, l49, l50, l51, l52, l57, l58, l59, l62, l63, l64, l96, l97, l98, l101, l102, l103, l104, l105, l106, l107, l108, l109, l110, l111, l112, l113, l114, l115, l116, l117, l118, l119, l121, l122, l127, l255, l700, l1320, l1000000, eg, ek, n15]
      have hT4 : eTT 4 (List.replicate j 3 ++ T) := by
        cases j with
        | zero => exact fun x hx => (hT x hx).imp_right (by omega)
        | succ j =>
          intro x hx
          have hx : some 3 = some x := hx
          obtain rfl := Option.some.inj hx
          exact Or.inr (by decide)
      refine simCmp hmn hB1 hgr hI hm ht0 hT4 ⟨hb1, hb2⟩ hg hf ?_
      cases e : pCmp b n mn pr d s with
      | inl ft => rw [e, rB_l] at hK; exact hK
      | inr p =>
        obtain ⟨E, s1⟩ := p
        rw [e, rB_r] at hK
        intro C' D w' f' tb' g' hC hD hB' hf' ht' htc'
        have hass : D ++ (List.replicate j 3 ++ T) = (D ++ List.replicate j 3) ++ T := by rw [List.append_assoc]
        rw [hass] at g' hB'
        refine hK C' (D ++ List.replicate j 3) w' f' tb' g' ?_ ?_ hB' hf' ht' ⟨fun z => by omega, fun _ => htc'.2 (by omega)⟩
        · rw [cML_app, cML_no, ← List.append_assoc, hC, List.append_assoc]
        · intro x hx
          rcases List.mem_append.mp hx with q | q
          · have := hD x q
            exact ⟨this.1, by omega⟩
          · rw [(List.mem_replicate.mp q).2]
            exact ⟨by omega, by decide⟩
theorem simNot (hmn : mn = 5 ∨ mn = 6) (hB1 : 1 ≤ B) (hgr : ∀ s, s ≤ n → gR b n s B (pr (d + 1) s)) (hI : hIn b n mn m w0 pr d) {Q : wS → Prop} {s : Nat} {C T : List Nat} {tb : Nat → Nat} {w : wS} {g : Nat} {f : Nat} (h : MS b n mn m w0 s C T d tb w) (ht0 : tb (d + 1) = 0) (hT : eTT 3 T) (hB : eBO m s C T) (hg : 703 ≤ g + s) (hf : 702 ≤ f + s) (hK : eKO b n mn m w0 Q (pNot b n mn pr d s) 3 C T d tb) : wpO (eOP g (nI 1) f w) Q := by
  have h7 := h.n7
  obtain ⟨g, rfl⟩ : ∃ x, g = x + 1 := ⟨g - 1, by omega⟩
  rw [eOP_1 h.2.1.1]
  exact simNots hmn hB1 hgr hI ht0 hT 8 0 s 5000 w h hB (by omega) hf (by omega) (by omega) (by omega) hK
theorem simAnd (hmn : mn = 5 ∨ mn = 6) (hB1 : 1 ≤ B) (hgr : ∀ s, s ≤ n → gR b n s B (pr (d + 1) s)) (hI : hIn b n mn m w0 pr d) {Q : wS → Prop} {s : Nat} {C T : List Nat} {tb : Nat → Nat} {w : wS} {g : Nat} {f : Nat} (h : MS b n mn m w0 s C T d tb w) (ht0 : tb (d + 1) = 0) (hT : eTT 2 T) (hB : eBO m s C T) (hg : 703 ≤ g + s) (hf : 702 ≤ f + s) (hK : eKO b n mn m w0 Q (pAnd b n mn pr d s) 2 C T d tb) : wpO (eOP g (nI 1) f w) Q := by
  have h7 := h.n7
  have hTl : T.length ≤ 700 := by have := hB.2; omega
  refine simNot hmn hB1 hgr hI h ht0 (fun x hx => (hT x hx).imp_right (by omega)) hB hg hf ?_
  unfold pAnd at hK
  cases e : pNot b n mn pr d s with
  | inl ft => rw [e, rB_l] at hK; exact hK
  | inr p =>
    obtain ⟨E, s1⟩ := p
    rw [e, rB_r] at hK
    intro C' D w' f' tb' g' hC hD hB' hf' ht' htc'
    exact simL (ls := 3) (ent := fun f w => eOP 5000 (nI 1) f w) (Or.inr ⟨by omega, by omega⟩) (fun s a ho => opA_s ho) (fun s F s3 hs e => (pNot_e (by omega) hB1 hgr hs e).2.1) (fun s a C' D w f tb' h hD ho hb hk => st_A h hD hT ho hb hTl (fun w2 g2 => hk w2 _ g2 (fun i hi => by rw [fu_s, if_neg (by omega)]) (fun z => by omega) (fun _ => by rw [fu_s, if_pos rfl]))) (fun s C T tb w f h ht0 hT hB hf hK => simNot hmn hB1 hgr hI h (ht0 (by omega)) hT hB (by omega) hf hK) (n + 1) E s1 C' D w' f' tb' g' hC (fun x hx => ⟨(hD x hx).1, by have := (hD x hx).2; omega⟩) hB' hf' (by omega) ht' ⟨fun z => by omega, fun _ => htc'.2 (by omega)⟩ hK
theorem simOr (hmn : mn = 5 ∨ mn = 6) (hB1 : 1 ≤ B) (hgr : ∀ s, s ≤ n → gR b n s B (pr (d + 1) s)) (hI : hIn b n mn m w0 pr d) {Q : wS → Prop} {s : Nat} {C T : List Nat} {tb : Nat → Nat} {w : wS} {g : Nat} {f : Nat} (h : MS b n mn m w0 s C T d tb w) (ht0 : tb (d + 1) = 0) (hT : eTT 1 T) (hB : eBO m s C T) (hg : 703 ≤ g + s) (hf : 702 ≤ f + s) (hK : eKO b n mn m w0 Q (pOr b n mn pr d s) 1 C T d tb) : wpO (eOP g (nI 1) f w) Q := by
  have h7 := h.n7
  have hTl : T.length ≤ 700 := by have := hB.2; omega
  refine simAnd hmn hB1 hgr hI h ht0 (fun x hx => (hT x hx).imp_right (by omega)) hB hg hf ?_
  unfold pOr at hK
  cases e : pAnd b n mn pr d s with
  | inl ft => rw [e, rB_l] at hK; exact hK
  | inr p =>
    obtain ⟨E, s1⟩ := p
    rw [e, rB_r] at hK
    intro C' D w' f' tb' g' hC hD hB' hf' ht' htc'
    exact simL (ls := 2) (ent := fun f w => eOP 5000 (nI 1) f w) (Or.inr ⟨by omega, by omega⟩) (fun s a ho => opO_s ho) (fun s F s3 hs e => (pAnd_e (by omega) hB1 hgr hs e).2.1) (fun s a C' D w f tb' h hD ho hb hk => st_O h hD hT ho hb hTl (fun w2 g2 => hk w2 _ g2 (fun i hi => by rw [fu_s, if_neg (by omega)]) (fun z => by omega) (fun _ => by rw [fu_s, if_pos rfl]))) (fun s C T tb w f h ht0 hT hB hf hK => simAnd hmn hB1 hgr hI h (ht0 (by omega)) hT hB (by omega) hf hK) (n + 1) E s1 C' D w' f' tb' g' hC (fun x hx => ⟨(hD x hx).1, by have := (hD x hx).2; omega⟩) hB' hf' (by omega) ht' ⟨fun z => by omega, fun _ => htc'.2 (by omega)⟩ hK
end
end
