section
/-! ===== words ===== -/
def wls : List (List Nat) := [[108, 97, 116, 101], [104, 97, 98, 105, 116], [104, 97, 115, 116, 101], [114, 117, 110, 103], [100, 117, 116, 121], [100, 97, 121], [119, 97, 121], [112, 101, 114, 115, 111, 110], [109, 117, 108, 101], [99, 111, 111, 107], [112, 97, 99, 101], [114, 105, 110, 103, 115], [109, 101, 110, 100, 115], [97, 110, 100], [111, 114], [110, 111, 116]]
abbrev wl (k : Nat) : List Nat := wls.getD k []
abbrev wIs (b : Nat → Nat) (n s : Nat) (l : List Nat) : Prop := kd b n s = 97 ∧ szT b n s = l.length ∧ ∀ j, j < l.length → b (s + j) = l.getD j 0
theorem kd_lt {b : Nat → Nat} {n s : Nat} (h : ∀ i, i < n → b i < 256) : kd b n s < 256 := by
  unfold kd
  by_cases h1 : n ≤ s
  · rw [if_pos h1]; omega
  · rw [if_neg h1]
    split
    · omega
    · split
      · omega
      · split
        · exact h s (by omega)
        · omega
theorem kd_97 {b : Nat → Nat} {n s : Nat} : kd b n s = 97 ↔ s < n ∧ ltB (b s) = true := by
  unfold kd
  by_cases h1 : n ≤ s
  · rw [if_pos h1]
    exact ⟨fun h => by omega, fun h => by omega⟩
  · rw [if_neg h1]
    by_cases h2 : ltB (b s) = true
    · rw [if_pos h2]; exact ⟨fun _ => ⟨by omega, h2⟩, fun _ => rfl⟩
    · rw [if_neg h2]
      refine ⟨fun h => ?_, fun h => absurd h.2 h2⟩
      exfalso
      split at h
      · omega
      · split at h
        · exact h2 (by rw [h]; rfl)
        · omega
theorem sg_eq : ∀ b, b < 256 → ∀ c, c < 123 → (sgB b = nI c ↔ b = c) := by decide +kernel
theorem wIs_1 {b : Nat → Nat} {n s : Nat} {l l' : List Nat} (h : wIs b n s l) (h' : wIs b n s l') : l = l' := by
  obtain ⟨_, a1, a2⟩ := h
  obtain ⟨_, b1, b2⟩ := h'
  refine List.ext_getElem (by omega) (fun i h1 h2 => ?_)
  have c1 := a2 i h1
  have c2 := b2 i h2
  rw [List.getD_eq_getElem?_getD, List.getElem?_eq_getElem h1] at c1
  rw [List.getD_eq_getElem?_getD, List.getElem?_eq_getElem h2] at c2
  have c1 : b (s + i) = l[i] := c1
  have c2 : b (s + i) = l'[i] := c2
  rw [← c1, ← c2]
theorem x_ch8 : ∀ i, i < 4 → xChr (aChr.getD 8 []) (nI i) = some (nI ((wl 0).getD i 0)) ∧ (wl 0).getD i 0 < 123 := by decide +kernel
theorem x_is0 {b : Nat → Nat} {n s : Nat} {o : wO} {w : wS} (h : TX b n s w) : L_X7_is_S8 o w = some (nI (if wIs b n s (wl 0) then 1 else 0), w) := by
  obtain ⟨⟨b1, b2, b3⟩, hs, h2, h3, h4⟩ := h
  have hz := szT_le (b := b) hs
  have hk := kd_lt (b := b) (n := n) (s := s) (fun i hi => (b3 i hi).1)
  suffices h : wpO (L_X7_is_S8 o w) (fun r => r = (nI (if wIs b n s (wl 0) then 1 else 0), w)) by
    obtain ⟨a, e, rfl⟩ := h; exact e
  unfold L_X7_is_S8 J_X7_is_S8_20
  simp (disch := omega) only [xB_s, xB2_s, xGet_s, xPut_s, xAld_s, xAst_s, xIf_t, xBool_s, l0, l1, l2, l3, l4, l5, l6, l7, l8, l9, l10, l11, l12, l13, l15, l16, l17, l19, l20, l25, l27, l30, l31, l32, l33, l39, l40, l60, l61, l99, l100, l120, l256, l999, l1999, l99999, lm, nI_add, pk_mul, nI_leI, nI_ltI, nI_eq, wuS_1, wuS_2, wuA_1, wuA_21, wuA_22, nI_m1, m1_nI, nIlt_m1, m1lt_nI, Nat.reduceEqDiff, Nat.reduceAdd, Nat.reduceMul, Nat.reduceSub, Nat.reduceLT, Nat.reduceLeDiff, reduceIte, if_true, if_false, Bool.false_eq_true, Nat.add_zero, Nat.zero_add, ne_eq, not_false_eq_true, not_true_eq_false, Nat.not_lt_zero, Nat.add_left_cancel_iff, Nat.add_right_cancel_iff, eq_self, upd_s, pk_sub, nI_pm, Nat.add_sub_cancel, List.length_cons, List.length_nil, Nat.add_eq_zero_iff, Nat.succ_ne_zero, and_false, false_and, l14, l18, l21, l23, l24, l26, l28, l29, l34, l35, l36, l41, l42, l43, l45, l47, l48, l49, l50, l51, l52, l57, l58, l59, l62, l63, l64, l96, l97, l98, l101, l102, l103, l104, l105, l106, l107, l108, l109, l110, l111, l112, l113, l114, l115, l116, l117, l118, l119, l121, l122, l127, l255, l700, l1320, l1000000, h2, h4]
  by_cases q1 : kd b n s = 97
  · rw [if_pos q1]
    by_cases q2 : szT b n s = 4
    · rw [if_pos q2]
      unfold P_X7_is_S8_24
      refine wp_for 4 (fun i σ => σ = (nI i, w) ∧ ∀ m, m < i → b (s + m) = (wl 0).getD m 0) ?_ (Nat.zero_le _) (by omega) ⟨rfl, fun m hm => absurd hm (Nat.not_lt_zero m)⟩
      rintro i _ kk hi ⟨rfl, hm⟩ hkk
      show wpO (B_X7_is_S8_24 o (fun x2 w => kk (x2, w)) _ _ (nI i) w) _
      unfold B_X7_is_S8_24
      by_cases hlt : i < 4
      · obtain ⟨c1, c2⟩ := b3 (s + i) (by omega)
        obtain ⟨c3, c4⟩ := x_ch8 i hlt
        simp (disch := omega) only [xB_s, xB2_s, xGet_s, xPut_s, xAld_s, xAst_s, xIf_t, xBool_s, l0, l1, l2, l3, l4, l5, l6, l7, l8, l9, l10, l11, l12, l13, l15, l16, l17, l19, l20, l25, l27, l30, l31, l32, l33, l39, l40, l60, l61, l99, l100, l120, l256, l999, l1999, l99999, lm, nI_add, pk_mul, nI_leI, nI_ltI, nI_eq, wuS_1, wuS_2, wuA_1, wuA_21, wuA_22, nI_m1, m1_nI, nIlt_m1, m1lt_nI, Nat.reduceEqDiff, Nat.reduceAdd, Nat.reduceMul, Nat.reduceSub, Nat.reduceLT, Nat.reduceLeDiff, reduceIte, if_true, if_false, Bool.false_eq_true, Nat.add_zero, Nat.zero_add, ne_eq, not_false_eq_true, not_true_eq_false, Nat.not_lt_zero, Nat.add_left_cancel_iff, Nat.add_right_cancel_iff, eq_self, upd_s, pk_sub, nI_pm, Nat.add_sub_cancel, List.length_cons, List.length_nil, Nat.add_eq_zero_iff, Nat.succ_ne_zero, and_false, false_and, l14, l18, l21, l23, l24, l26, l28, l29, l34, l35, l36, l41, l42, l43, l45, l47, l48, l49, l50, l51, l52, l57, l58, l59, l62, l63, l64, l96, l97, l98, l101, l102, l103, l104, l105, l106, l107, l108, l109, l110, l111, l112, l113, l114, l115, l116, l117, l118, l119, l121, l122, l127, l255, l700, l1320, l1000000, h4, q2, h3, show (4 ≤ i) = False from eq_false (by omega), c2, c3]
        by_cases q3 : b (s + i) = (wl 0).getD i 0
        · rw [if_pos ((sg_eq _ c1 _ c4).mpr q3)]
          refine hkk hlt _ ⟨rfl, fun m hm' => ?_⟩
          by_cases e : m = i
          · rw [e]; exact q3
          · exact hm m (by omega)
        · rw [if_neg (fun z => q3 ((sg_eq _ c1 _ c4).mp z)), if_neg (fun z => q3 (z.2.2 i hlt))]
          exact wp_some rfl
      · obtain rfl : i = 4 := by omega
        simp (disch := omega) only [xB_s, xB2_s, xGet_s, xPut_s, xAld_s, xAst_s, xIf_t, xBool_s, l0, l1, l2, l3, l4, l5, l6, l7, l8, l9, l10, l11, l12, l13, l15, l16, l17, l19, l20, l25, l27, l30, l31, l32, l33, l39, l40, l60, l61, l99, l100, l120, l256, l999, l1999, l99999, lm, nI_add, pk_mul, nI_leI, nI_ltI, nI_eq, wuS_1, wuS_2, wuA_1, wuA_21, wuA_22, nI_m1, m1_nI, nIlt_m1, m1lt_nI, Nat.reduceEqDiff, Nat.reduceAdd, Nat.reduceMul, Nat.reduceSub, Nat.reduceLT, Nat.reduceLeDiff, reduceIte, if_true, if_false, Bool.false_eq_true, Nat.add_zero, Nat.zero_add, ne_eq, not_false_eq_true, not_true_eq_false, Nat.not_lt_zero, Nat.add_left_cancel_iff, Nat.add_right_cancel_iff, eq_self, upd_s, pk_sub, nI_pm, Nat.add_sub_cancel, List.length_cons, List.length_nil, Nat.add_eq_zero_iff, Nat.succ_ne_zero, and_false, false_and, l14, l18, l21, l23, l24, l26, l28, l29, l34, l35, l36, l41, l42, l43, l45, l47, l48, l49, l50, l51, l52, l57, l58, l59, l62, l63, l64, l96, l97, l98, l101, l102, l103, l104, l105, l106, l107, l108, l109, l110, l111, l112, l113, l114, l115, l116, l117, l118, l119, l121, l122, l127, l255, l700, l1320, l1000000, h4, q2]
        rw [if_pos ⟨q1, q2, fun m hm' => hm m hm'⟩]
        exact wp_some rfl
    · rw [if_neg q2, if_neg (fun z => q2 z.2.1)]
      exact wp_some rfl
  · rw [if_neg q1, if_neg (fun z => q1 z.1)]
    exact wp_some rfl
theorem x_ch9 : ∀ i, i < 5 → xChr (aChr.getD 9 []) (nI i) = some (nI ((wl 1).getD i 0)) ∧ (wl 1).getD i 0 < 123 := by decide +kernel
theorem x_is1 {b : Nat → Nat} {n s : Nat} {o : wO} {w : wS} (h : TX b n s w) : L_X7_is_S9 o w = some (nI (if wIs b n s (wl 1) then 1 else 0), w) := by
  obtain ⟨⟨b1, b2, b3⟩, hs, h2, h3, h4⟩ := h
  have hz := szT_le (b := b) hs
  have hk := kd_lt (b := b) (n := n) (s := s) (fun i hi => (b3 i hi).1)
  suffices h : wpO (L_X7_is_S9 o w) (fun r => r = (nI (if wIs b n s (wl 1) then 1 else 0), w)) by
    obtain ⟨a, e, rfl⟩ := h; exact e
  unfold L_X7_is_S9 J_X7_is_S9_20
  simp (disch := omega) only [xB_s, xB2_s, xGet_s, xPut_s, xAld_s, xAst_s, xIf_t, xBool_s, l0, l1, l2, l3, l4, l5, l6, l7, l8, l9, l10, l11, l12, l13, l15, l16, l17, l19, l20, l25, l27, l30, l31, l32, l33, l39, l40, l60, l61, l99, l100, l120, l256, l999, l1999, l99999, lm, nI_add, pk_mul, nI_leI, nI_ltI, nI_eq, wuS_1, wuS_2, wuA_1, wuA_21, wuA_22, nI_m1, m1_nI, nIlt_m1, m1lt_nI, Nat.reduceEqDiff, Nat.reduceAdd, Nat.reduceMul, Nat.reduceSub, Nat.reduceLT, Nat.reduceLeDiff, reduceIte, if_true, if_false, Bool.false_eq_true, Nat.add_zero, Nat.zero_add, ne_eq, not_false_eq_true, not_true_eq_false, Nat.not_lt_zero, Nat.add_left_cancel_iff, Nat.add_right_cancel_iff, eq_self, upd_s, pk_sub, nI_pm, Nat.add_sub_cancel, List.length_cons, List.length_nil, Nat.add_eq_zero_iff, Nat.succ_ne_zero, and_false, false_and, l14, l18, l21, l23, l24, l26, l28, l29, l34, l35, l36, l41, l42, l43, l45, l47, l48, l49, l50, l51, l52, l57, l58, l59, l62, l63, l64, l96, l97, l98, l101, l102, l103, l104, l105, l106, l107, l108, l109, l110, l111, l112, l113, l114, l115, l116, l117, l118, l119, l121, l122, l127, l255, l700, l1320, l1000000, h2, h4]
  by_cases q1 : kd b n s = 97
  · rw [if_pos q1]
    by_cases q2 : szT b n s = 5
    · rw [if_pos q2]
      unfold P_X7_is_S9_24
      refine wp_for 5 (fun i σ => σ = (nI i, w) ∧ ∀ m, m < i → b (s + m) = (wl 1).getD m 0) ?_ (Nat.zero_le _) (by omega) ⟨rfl, fun m hm => absurd hm (Nat.not_lt_zero m)⟩
      rintro i _ kk hi ⟨rfl, hm⟩ hkk
      show wpO (B_X7_is_S9_24 o (fun x2 w => kk (x2, w)) _ _ (nI i) w) _
      unfold B_X7_is_S9_24
      by_cases hlt : i < 5
      · obtain ⟨c1, c2⟩ := b3 (s + i) (by omega)
        obtain ⟨c3, c4⟩ := x_ch9 i hlt
        simp (disch := omega) only [xB_s, xB2_s, xGet_s, xPut_s, xAld_s, xAst_s, xIf_t, xBool_s, l0, l1, l2, l3, l4, l5, l6, l7, l8, l9, l10, l11, l12, l13, l15, l16, l17, l19, l20, l25, l27, l30, l31, l32, l33, l39, l40, l60, l61, l99, l100, l120, l256, l999, l1999, l99999, lm, nI_add, pk_mul, nI_leI, nI_ltI, nI_eq, wuS_1, wuS_2, wuA_1, wuA_21, wuA_22, nI_m1, m1_nI, nIlt_m1, m1lt_nI, Nat.reduceEqDiff, Nat.reduceAdd, Nat.reduceMul, Nat.reduceSub, Nat.reduceLT, Nat.reduceLeDiff, reduceIte, if_true, if_false, Bool.false_eq_true, Nat.add_zero, Nat.zero_add, ne_eq, not_false_eq_true, not_true_eq_false, Nat.not_lt_zero, Nat.add_left_cancel_iff, Nat.add_right_cancel_iff, eq_self, upd_s, pk_sub, nI_pm, Nat.add_sub_cancel, List.length_cons, List.length_nil, Nat.add_eq_zero_iff, Nat.succ_ne_zero, and_false, false_and, l14, l18, l21, l23, l24, l26, l28, l29, l34, l35, l36, l41, l42, l43, l45, l47, l48, l49, l50, l51, l52, l57, l58, l59, l62, l63, l64, l96, l97, l98, l101, l102, l103, l104, l105, l106, l107, l108, l109, l110, l111, l112, l113, l114, l115, l116, l117, l118, l119, l121, l122, l127, l255, l700, l1320, l1000000, h4, q2, h3, show (5 ≤ i) = False from eq_false (by omega), c2, c3]
        by_cases q3 : b (s + i) = (wl 1).getD i 0
        · rw [if_pos ((sg_eq _ c1 _ c4).mpr q3)]
          refine hkk hlt _ ⟨rfl, fun m hm' => ?_⟩
          by_cases e : m = i
          · rw [e]; exact q3
          · exact hm m (by omega)
        · rw [if_neg (fun z => q3 ((sg_eq _ c1 _ c4).mp z)), if_neg (fun z => q3 (z.2.2 i hlt))]
          exact wp_some rfl
      · obtain rfl : i = 5 := by omega
        simp (disch := omega) only [xB_s, xB2_s, xGet_s, xPut_s, xAld_s, xAst_s, xIf_t, xBool_s, l0, l1, l2, l3, l4, l5, l6, l7, l8, l9, l10, l11, l12, l13, l15, l16, l17, l19, l20, l25, l27, l30, l31, l32, l33, l39, l40, l60, l61, l99, l100, l120, l256, l999, l1999, l99999, lm, nI_add, pk_mul, nI_leI, nI_ltI, nI_eq, wuS_1, wuS_2, wuA_1, wuA_21, wuA_22, nI_m1, m1_nI, nIlt_m1, m1lt_nI, Nat.reduceEqDiff, Nat.reduceAdd, Nat.reduceMul, Nat.reduceSub, Nat.reduceLT, Nat.reduceLeDiff, reduceIte, if_true, if_false, Bool.false_eq_true, Nat.add_zero, Nat.zero_add, ne_eq, not_false_eq_true, not_true_eq_false, Nat.not_lt_zero, Nat.add_left_cancel_iff, Nat.add_right_cancel_iff, eq_self, upd_s, pk_sub, nI_pm, Nat.add_sub_cancel, List.length_cons, List.length_nil, Nat.add_eq_zero_iff, Nat.succ_ne_zero, and_false, false_and, l14, l18, l21, l23, l24, l26, l28, l29, l34, l35, l36, l41, l42, l43, l45, l47, l48, l49, l50, l51, l52, l57, l58, l59, l62, l63, l64, l96, l97, l98, l101, l102, l103, l104, l105, l106, l107, l108, l109, l110, l111, l112, l113, l114, l115, l116, l117, l118, l119, l121, l122, l127, l255, l700, l1320, l1000000, h4, q2]
        rw [if_pos ⟨q1, q2, fun m hm' => hm m hm'⟩]
        exact wp_some rfl
    · rw [if_neg q2, if_neg (fun z => q2 z.2.1)]
      exact wp_some rfl
  · rw [if_neg q1, if_neg (fun z => q1 z.1)]
    exact wp_some rfl
theorem x_ch10 : ∀ i, i < 5 → xChr (aChr.getD 10 []) (nI i) = some (nI ((wl 2).getD i 0)) ∧ (wl 2).getD i 0 < 123 := by decide +kernel
theorem x_is2 {b : Nat → Nat} {n s : Nat} {o : wO} {w : wS} (h : TX b n s w) : L_X7_is_S10 o w = some (nI (if wIs b n s (wl 2) then 1 else 0), w) := by
  obtain ⟨⟨b1, b2, b3⟩, hs, h2, h3, h4⟩ := h
  have hz := szT_le (b := b) hs
  have hk := kd_lt (b := b) (n := n) (s := s) (fun i hi => (b3 i hi).1)
  suffices h : wpO (L_X7_is_S10 o w) (fun r => r = (nI (if wIs b n s (wl 2) then 1 else 0), w)) by
    obtain ⟨a, e, rfl⟩ := h; exact e
  unfold L_X7_is_S10 J_X7_is_S10_20
  simp (disch := omega) only [xB_s, xB2_s, xGet_s, xPut_s, xAld_s, xAst_s, xIf_t, xBool_s, l0, l1, l2, l3, l4, l5, l6, l7, l8, l9, l10, l11, l12, l13, l15, l16, l17, l19, l20, l25, l27, l30, l31, l32, l33, l39, l40, l60, l61, l99, l100, l120, l256, l999, l1999, l99999, lm, nI_add, pk_mul, nI_leI, nI_ltI, nI_eq, wuS_1, wuS_2, wuA_1, wuA_21, wuA_22, nI_m1, m1_nI, nIlt_m1, m1lt_nI, Nat.reduceEqDiff, Nat.reduceAdd, Nat.reduceMul, Nat.reduceSub, Nat.reduceLT, Nat.reduceLeDiff, reduceIte, if_true, if_false, Bool.false_eq_true, Nat.add_zero, Nat.zero_add, ne_eq, not_false_eq_true, not_true_eq_false, Nat.not_lt_zero, Nat.add_left_cancel_iff, Nat.add_right_cancel_iff, eq_self, upd_s, pk_sub, nI_pm, Nat.add_sub_cancel, List.length_cons, List.length_nil, Nat.add_eq_zero_iff, Nat.succ_ne_zero, and_false, false_and, l14, l18, l21, l23, l24, l26, l28, l29, l34, l35, l36, l41, l42, l43, l45, l47, l48, l49, l50, l51, l52, l57, l58, l59, l62, l63, l64, l96, l97, l98, l101, l102, l103, l104, l105, l106, l107, l108, l109, l110, l111, l112, l113, l114, l115, l116, l117, l118, l119, l121, l122, l127, l255, l700, l1320, l1000000, h2, h4]
  by_cases q1 : kd b n s = 97
  · rw [if_pos q1]
    by_cases q2 : szT b n s = 5
    · rw [if_pos q2]
      unfold P_X7_is_S10_24
      refine wp_for 5 (fun i σ => σ = (nI i, w) ∧ ∀ m, m < i → b (s + m) = (wl 2).getD m 0) ?_ (Nat.zero_le _) (by omega) ⟨rfl, fun m hm => absurd hm (Nat.not_lt_zero m)⟩
      rintro i _ kk hi ⟨rfl, hm⟩ hkk
      show wpO (B_X7_is_S10_24 o (fun x2 w => kk (x2, w)) _ _ (nI i) w) _
      unfold B_X7_is_S10_24
      by_cases hlt : i < 5
      · obtain ⟨c1, c2⟩ := b3 (s + i) (by omega)
        obtain ⟨c3, c4⟩ := x_ch10 i hlt
        simp (disch := omega) only [xB_s, xB2_s, xGet_s, xPut_s, xAld_s, xAst_s, xIf_t, xBool_s, l0, l1, l2, l3, l4, l5, l6, l7, l8, l9, l10, l11, l12, l13, l15, l16, l17, l19, l20, l25, l27, l30, l31, l32, l33, l39, l40, l60, l61, l99, l100, l120, l256, l999, l1999, l99999, lm, nI_add, pk_mul, nI_leI, nI_ltI, nI_eq, wuS_1, wuS_2, wuA_1, wuA_21, wuA_22, nI_m1, m1_nI, nIlt_m1, m1lt_nI, Nat.reduceEqDiff, Nat.reduceAdd, Nat.reduceMul, Nat.reduceSub, Nat.reduceLT, Nat.reduceLeDiff, reduceIte, if_true, if_false, Bool.false_eq_true, Nat.add_zero, Nat.zero_add, ne_eq, not_false_eq_true, not_true_eq_false, Nat.not_lt_zero, Nat.add_left_cancel_iff, Nat.add_right_cancel_iff, eq_self, upd_s, pk_sub, nI_pm, Nat.add_sub_cancel, List.length_cons, List.length_nil, Nat.add_eq_zero_iff, Nat.succ_ne_zero, and_false, false_and, l14, l18, l21, l23, l24, l26, l28, l29, l34, l35, l36, l41, l42, l43, l45, l47, l48, l49, l50, l51, l52, l57, l58, l59, l62, l63, l64, l96, l97, l98, l101, l102, l103, l104, l105, l106, l107, l108, l109, l110, l111, l112, l113, l114, l115, l116, l117, l118, l119, l121, l122, l127, l255, l700, l1320, l1000000, h4, q2, h3, show (5 ≤ i) = False from eq_false (by omega), c2, c3]
        by_cases q3 : b (s + i) = (wl 2).getD i 0
        · rw [if_pos ((sg_eq _ c1 _ c4).mpr q3)]
          refine hkk hlt _ ⟨rfl, fun m hm' => ?_⟩
          by_cases e : m = i
          · rw [e]; exact q3
          · exact hm m (by omega)
        · rw [if_neg (fun z => q3 ((sg_eq _ c1 _ c4).mp z)), if_neg (fun z => q3 (z.2.2 i hlt))]
          exact wp_some rfl
      · obtain rfl : i = 5 := by omega
        simp (disch := omega) only [xB_s, xB2_s, xGet_s, xPut_s, xAld_s, xAst_s, xIf_t, xBool_s, l0, l1, l2, l3, l4, l5, l6, l7, l8, l9, l10, l11, l12, l13, l15, l16, l17, l19, l20, l25, l27, l30, l31, l32, l33, l39, l40, l60, l61, l99, l100, l120, l256, l999, l1999, l99999, lm, nI_add, pk_mul, nI_leI, nI_ltI, nI_eq, wuS_1, wuS_2, wuA_1, wuA_21, wuA_22, nI_m1, m1_nI, nIlt_m1, m1lt_nI, Nat.reduceEqDiff, Nat.reduceAdd, Nat.reduceMul, Nat.reduceSub, Nat.reduceLT, Nat.reduceLeDiff, reduceIte, if_true, if_false, Bool.false_eq_true, Nat.add_zero, Nat.zero_add, ne_eq, not_false_eq_true, not_true_eq_false, Nat.not_lt_zero, Nat.add_left_cancel_iff, Nat.add_right_cancel_iff, eq_self, upd_s, pk_sub, nI_pm, Nat.add_sub_cancel, List.length_cons, List.length_nil, Nat.add_eq_zero_iff, Nat.succ_ne_zero, and_false, false_and, l14, l18, l21, l23, l24, l26, l28, l29, l34, l35, l36, l41, l42, l43, l45, l47, l48, l49, l50, l51, l52, l57, l58, l59, l62, l63, l64, l96, l97, l98, l101, l102, l103, l104, l105, l106, l107, l108, l109, l110, l111, l112, l113, l114, l115, l116, l117, l118, l119, l121, l122, l127, l255, l700, l1320, l1000000, h4, q2]
        rw [if_pos ⟨q1, q2, fun m hm' => hm m hm'⟩]
        exact wp_some rfl
    · rw [if_neg q2, if_neg (fun z => q2 z.2.1)]
      exact wp_some rfl
  · rw [if_neg q1, if_neg (fun z => q1 z.1)]
    exact wp_some rfl
theorem x_ch11 : ∀ i, i < 4 → xChr (aChr.getD 11 []) (nI i) = some (nI ((wl 3).getD i 0)) ∧ (wl 3).getD i 0 < 123 := by decide +kernel
theorem x_is3 {b : Nat → Nat} {n s : Nat} {o : wO} {w : wS} (h : TX b n s w) : L_X7_is_S11 o w = some (nI (if wIs b n s (wl 3) then 1 else 0), w) := by
  obtain ⟨⟨b1, b2, b3⟩, hs, h2, h3, h4⟩ := h
  have hz := szT_le (b := b) hs
  have hk := kd_lt (b := b) (n := n) (s := s) (fun i hi => (b3 i hi).1)
  suffices h : wpO (L_X7_is_S11 o w) (fun r => r = (nI (if wIs b n s (wl 3) then 1 else 0), w)) by
    obtain ⟨a, e, rfl⟩ := h; exact e
  unfold L_X7_is_S11 J_X7_is_S11_20
  simp (disch := omega) only [xB_s, xB2_s, xGet_s, xPut_s, xAld_s, xAst_s, xIf_t, xBool_s, l0, l1, l2, l3, l4, l5, l6, l7, l8, l9, l10, l11, l12, l13, l15, l16, l17, l19, l20, l25, l27, l30, l31, l32, l33, l39, l40, l60, l61, l99, l100, l120, l256, l999, l1999, l99999, lm, nI_add, pk_mul, nI_leI, nI_ltI, nI_eq, wuS_1, wuS_2, wuA_1, wuA_21, wuA_22, nI_m1, m1_nI, nIlt_m1, m1lt_nI, Nat.reduceEqDiff, Nat.reduceAdd, Nat.reduceMul, Nat.reduceSub, Nat.reduceLT, Nat.reduceLeDiff, reduceIte, if_true, if_false, Bool.false_eq_true, Nat.add_zero, Nat.zero_add, ne_eq, not_false_eq_true, not_true_eq_false, Nat.not_lt_zero, Nat.add_left_cancel_iff, Nat.add_right_cancel_iff, eq_self, upd_s, pk_sub, nI_pm, Nat.add_sub_cancel, List.length_cons, List.length_nil, Nat.add_eq_zero_iff, Nat.succ_ne_zero, and_false, false_and, l14, l18, l21, l23, l24, l26, l28, l29, l34, l35, l36, l41, l42, l43, l45, l47, l48, l49, l50, l51, l52, l57, l58, l59, l62, l63, l64, l96, l97, l98, l101, l102, l103, l104, l105, l106, l107, l108, l109, l110, l111, l112, l113, l114, l115, l116, l117, l118, l119, l121, l122, l127, l255, l700, l1320, l1000000, h2, h4]
  by_cases q1 : kd b n s = 97
  · rw [if_pos q1]
    by_cases q2 : szT b n s = 4
    · rw [if_pos q2]
      unfold P_X7_is_S11_24
      refine wp_for 4 (fun i σ => σ = (nI i, w) ∧ ∀ m, m < i → b (s + m) = (wl 3).getD m 0) ?_ (Nat.zero_le _) (by omega) ⟨rfl, fun m hm => absurd hm (Nat.not_lt_zero m)⟩
      rintro i _ kk hi ⟨rfl, hm⟩ hkk
      show wpO (B_X7_is_S11_24 o (fun x2 w => kk (x2, w)) _ _ (nI i) w) _
      unfold B_X7_is_S11_24
      by_cases hlt : i < 4
      · obtain ⟨c1, c2⟩ := b3 (s + i) (by omega)
        obtain ⟨c3, c4⟩ := x_ch11 i hlt
        simp (disch := omega) only [xB_s, xB2_s, xGet_s, xPut_s, xAld_s, xAst_s, xIf_t, xBool_s, l0, l1, l2, l3, l4, l5, l6, l7, l8, l9, l10, l11, l12, l13, l15, l16, l17, l19, l20, l25, l27, l30, l31, l32, l33, l39, l40, l60, l61, l99, l100, l120, l256, l999, l1999, l99999, lm, nI_add, pk_mul, nI_leI, nI_ltI, nI_eq, wuS_1, wuS_2, wuA_1, wuA_21, wuA_22, nI_m1, m1_nI, nIlt_m1, m1lt_nI, Nat.reduceEqDiff, Nat.reduceAdd, Nat.reduceMul, Nat.reduceSub, Nat.reduceLT, Nat.reduceLeDiff, reduceIte, if_true, if_false, Bool.false_eq_true, Nat.add_zero, Nat.zero_add, ne_eq, not_false_eq_true, not_true_eq_false, Nat.not_lt_zero, Nat.add_left_cancel_iff, Nat.add_right_cancel_iff, eq_self, upd_s, pk_sub, nI_pm, Nat.add_sub_cancel, List.length_cons, List.length_nil, Nat.add_eq_zero_iff, Nat.succ_ne_zero, and_false, false_and, l14, l18, l21, l23, l24, l26, l28, l29, l34, l35, l36, l41, l42, l43, l45, l47, l48, l49, l50, l51, l52, l57, l58, l59, l62, l63, l64, l96, l97, l98, l101, l102, l103, l104, l105, l106, l107, l108, l109, l110, l111, l112, l113, l114, l115, l116, l117, l118, l119, l121, l122, l127, l255, l700, l1320, l1000000, h4, q2, h3, show (4 ≤ i) = False from eq_false (by omega), c2, c3]
        by_cases q3 : b (s + i) = (wl 3).getD i 0
        · rw [if_pos ((sg_eq _ c1 _ c4).mpr q3)]
          refine hkk hlt _ ⟨rfl, fun m hm' => ?_⟩
          by_cases e : m = i
          · rw [e]; exact q3
          · exact hm m (by omega)
        · rw [if_neg (fun z => q3 ((sg_eq _ c1 _ c4).mp z)), if_neg (fun z => q3 (z.2.2 i hlt))]
          exact wp_some rfl
      · obtain rfl : i = 4 := by omega
        simp (disch := omega) only [xB_s, xB2_s, xGet_s, xPut_s, xAld_s, xAst_s, xIf_t, xBool_s, l0, l1, l2, l3, l4, l5, l6, l7, l8, l9, l10, l11, l12, l13, l15, l16, l17, l19, l20, l25, l27, l30, l31, l32, l33, l39, l40, l60, l61, l99, l100, l120, l256, l999, l1999, l99999, lm, nI_add, pk_mul, nI_leI, nI_ltI, nI_eq, wuS_1, wuS_2, wuA_1, wuA_21, wuA_22, nI_m1, m1_nI, nIlt_m1, m1lt_nI, Nat.reduceEqDiff, Nat.reduceAdd, Nat.reduceMul, Nat.reduceSub, Nat.reduceLT, Nat.reduceLeDiff, reduceIte, if_true, if_false, Bool.false_eq_true, Nat.add_zero, Nat.zero_add, ne_eq, not_false_eq_true, not_true_eq_false, Nat.not_lt_zero, Nat.add_left_cancel_iff, Nat.add_right_cancel_iff, eq_self, upd_s, pk_sub, nI_pm, Nat.add_sub_cancel, List.length_cons, List.length_nil, Nat.add_eq_zero_iff, Nat.succ_ne_zero, and_false, false_and, l14, l18, l21, l23, l24, l26, l28, l29, l34, l35, l36, l41, l42, l43, l45, l47, l48, l49, l50, l51, l52, l57, l58, l59, l62, l63, l64, l96, l97, l98, l101, l102, l103, l104, l105, l106, l107, l108, l109, l110, l111, l112, l113, l114, l115, l116, l117, l118, l119, l121, l122, l127, l255, l700, l1320, l1000000, h4, q2]
        rw [if_pos ⟨q1, q2, fun m hm' => hm m hm'⟩]
        exact wp_some rfl
    · rw [if_neg q2, if_neg (fun z => q2 z.2.1)]
      exact wp_some rfl
  · rw [if_neg q1, if_neg (fun z => q1 z.1)]
    exact wp_some rfl
theorem x_ch4 : ∀ i, i < 4 → xChr (aChr.getD 4 []) (nI i) = some (nI ((wl 4).getD i 0)) ∧ (wl 4).getD i 0 < 123 := by decide +kernel
theorem x_is4 {b : Nat → Nat} {n s : Nat} {o : wO} {w : wS} (h : TX b n s w) : L_X7_is_S4 o w = some (nI (if wIs b n s (wl 4) then 1 else 0), w) := by
  obtain ⟨⟨b1, b2, b3⟩, hs, h2, h3, h4⟩ := h
  have hz := szT_le (b := b) hs
  have hk := kd_lt (b := b) (n := n) (s := s) (fun i hi => (b3 i hi).1)
  suffices h : wpO (L_X7_is_S4 o w) (fun r => r = (nI (if wIs b n s (wl 4) then 1 else 0), w)) by
    obtain ⟨a, e, rfl⟩ := h; exact e
  unfold L_X7_is_S4 J_X7_is_S4_20
  simp (disch := omega) only [xB_s, xB2_s, xGet_s, xPut_s, xAld_s, xAst_s, xIf_t, xBool_s, l0, l1, l2, l3, l4, l5, l6, l7, l8, l9, l10, l11, l12, l13, l15, l16, l17, l19, l20, l25, l27, l30, l31, l32, l33, l39, l40, l60, l61, l99, l100, l120, l256, l999, l1999, l99999, lm, nI_add, pk_mul, nI_leI, nI_ltI, nI_eq, wuS_1, wuS_2, wuA_1, wuA_21, wuA_22, nI_m1, m1_nI, nIlt_m1, m1lt_nI, Nat.reduceEqDiff, Nat.reduceAdd, Nat.reduceMul, Nat.reduceSub, Nat.reduceLT, Nat.reduceLeDiff, reduceIte, if_true, if_false, Bool.false_eq_true, Nat.add_zero, Nat.zero_add, ne_eq, not_false_eq_true, not_true_eq_false, Nat.not_lt_zero, Nat.add_left_cancel_iff, Nat.add_right_cancel_iff, eq_self, upd_s, pk_sub, nI_pm, Nat.add_sub_cancel, List.length_cons, List.length_nil, Nat.add_eq_zero_iff, Nat.succ_ne_zero, and_false, false_and, l14, l18, l21, l23, l24, l26, l28, l29, l34, l35, l36, l41, l42, l43, l45, l47, l48, l49, l50, l51, l52, l57, l58, l59, l62, l63, l64, l96, l97, l98, l101, l102, l103, l104, l105, l106, l107, l108, l109, l110, l111, l112, l113, l114, l115, l116, l117, l118, l119, l121, l122, l127, l255, l700, l1320, l1000000, h2, h4]
  by_cases q1 : kd b n s = 97
  · rw [if_pos q1]
    by_cases q2 : szT b n s = 4
    · rw [if_pos q2]
      unfold P_X7_is_S4_24
      refine wp_for 4 (fun i σ => σ = (nI i, w) ∧ ∀ m, m < i → b (s + m) = (wl 4).getD m 0) ?_ (Nat.zero_le _) (by omega) ⟨rfl, fun m hm => absurd hm (Nat.not_lt_zero m)⟩
      rintro i _ kk hi ⟨rfl, hm⟩ hkk
      show wpO (B_X7_is_S4_24 o (fun x2 w => kk (x2, w)) _ _ (nI i) w) _
      unfold B_X7_is_S4_24
      by_cases hlt : i < 4
      · obtain ⟨c1, c2⟩ := b3 (s + i) (by omega)
        obtain ⟨c3, c4⟩ := x_ch4 i hlt
        simp (disch := omega) only [xB_s, xB2_s, xGet_s, xPut_s, xAld_s, xAst_s, xIf_t, xBool_s, l0, l1, l2, l3, l4, l5, l6, l7, l8, l9, l10, l11, l12, l13, l15, l16, l17, l19, l20, l25, l27, l30, l31, l32, l33, l39, l40, l60, l61, l99, l100, l120, l256, l999, l1999, l99999, lm, nI_add, pk_mul, nI_leI, nI_ltI, nI_eq, wuS_1, wuS_2, wuA_1, wuA_21, wuA_22, nI_m1, m1_nI, nIlt_m1, m1lt_nI, Nat.reduceEqDiff, Nat.reduceAdd, Nat.reduceMul, Nat.reduceSub, Nat.reduceLT, Nat.reduceLeDiff, reduceIte, if_true, if_false, Bool.false_eq_true, Nat.add_zero, Nat.zero_add, ne_eq, not_false_eq_true, not_true_eq_false, Nat.not_lt_zero, Nat.add_left_cancel_iff, Nat.add_right_cancel_iff, eq_self, upd_s, pk_sub, nI_pm, Nat.add_sub_cancel, List.length_cons, List.length_nil, Nat.add_eq_zero_iff, Nat.succ_ne_zero, and_false, false_and, l14, l18, l21, l23, l24, l26, l28, l29, l34, l35, l36, l41, l42, l43, l45, l47, l48, l49, l50, l51, l52, l57, l58, l59, l62, l63, l64, l96, l97, l98, l101, l102, l103, l104, l105, l106, l107, l108, l109, l110, l111, l112, l113, l114, l115, l116, l117, l118, l119, l121, l122, l127, l255, l700, l1320, l1000000, h4, q2, h3, show (4 ≤ i) = False from eq_false (by omega), c2, c3]
        by_cases q3 : b (s + i) = (wl 4).getD i 0
        · rw [if_pos ((sg_eq _ c1 _ c4).mpr q3)]
          refine hkk hlt _ ⟨rfl, fun m hm' => ?_⟩
          by_cases e : m = i
          · rw [e]; exact q3
          · exact hm m (by omega)
        · rw [if_neg (fun z => q3 ((sg_eq _ c1 _ c4).mp z)), if_neg (fun z => q3 (z.2.2 i hlt))]
          exact wp_some rfl
      · obtain rfl : i = 4 := by omega
        simp (disch := omega) only [xB_s, xB2_s, xGet_s, xPut_s, xAld_s, xAst_s, xIf_t, xBool_s, l0, l1, l2, l3, l4, l5, l6, l7, l8, l9, l10, l11, l12, l13, l15, l16, l17, l19, l20, l25, l27, l30, l31, l32, l33, l39, l40, l60, l61, l99, l100, l120, l256, l999, l1999, l99999, lm, nI_add, pk_mul, nI_leI, nI_ltI, nI_eq, wuS_1, wuS_2, wuA_1, wuA_21, wuA_22, nI_m1, m1_nI, nIlt_m1, m1lt_nI, Nat.reduceEqDiff, Nat.reduceAdd, Nat.reduceMul, Nat.reduceSub, Nat.reduceLT, Nat.reduceLeDiff, reduceIte, if_true, if_false, Bool.false_eq_true, Nat.add_zero, Nat.zero_add, ne_eq, not_false_eq_true, not_true_eq_false, Nat.not_lt_zero, Nat.add_left_cancel_iff, Nat.add_right_cancel_iff, eq_self, upd_s, pk_sub, nI_pm, Nat.add_sub_cancel, List.length_cons, List.length_nil, Nat.add_eq_zero_iff, Nat.succ_ne_zero, and_false, false_and, l14, l18, l21, l23, l24, l26, l28, l29, l34, l35, l36, l41, l42, l43, l45, l47, l48, l49, l50, l51, l52, l57, l58, l59, l62, l63, l64, l96, l97, l98, l101, l102, l103, l104, l105, l106, l107, l108, l109, l110, l111, l112, l113, l114, l115, l116, l117, l118, l119, l121, l122, l127, l255, l700, l1320, l1000000, h4, q2]
        rw [if_pos ⟨q1, q2, fun m hm' => hm m hm'⟩]
        exact wp_some rfl
    · rw [if_neg q2, if_neg (fun z => q2 z.2.1)]
      exact wp_some rfl
  · rw [if_neg q1, if_neg (fun z => q1 z.1)]
    exact wp_some rfl
theorem x_ch12 : ∀ i, i < 3 → xChr (aChr.getD 12 []) (nI i) = some (nI ((wl 5).getD i 0)) ∧ (wl 5).getD i 0 < 123 := by decide +kernel
theorem x_is5 {b : Nat → Nat} {n s : Nat} {o : wO} {w : wS} (h : TX b n s w) : L_X7_is_S12 o w = some (nI (if wIs b n s (wl 5) then 1 else 0), w) := by
  obtain ⟨⟨b1, b2, b3⟩, hs, h2, h3, h4⟩ := h
  have hz := szT_le (b := b) hs
  have hk := kd_lt (b := b) (n := n) (s := s) (fun i hi => (b3 i hi).1)
  suffices h : wpO (L_X7_is_S12 o w) (fun r => r = (nI (if wIs b n s (wl 5) then 1 else 0), w)) by
    obtain ⟨a, e, rfl⟩ := h; exact e
  unfold L_X7_is_S12 J_X7_is_S12_20
  simp (disch := omega) only [xB_s, xB2_s, xGet_s, xPut_s, xAld_s, xAst_s, xIf_t, xBool_s, l0, l1, l2, l3, l4, l5, l6, l7, l8, l9, l10, l11, l12, l13, l15, l16, l17, l19, l20, l25, l27, l30, l31, l32, l33, l39, l40, l60, l61, l99, l100, l120, l256, l999, l1999, l99999, lm, nI_add, pk_mul, nI_leI, nI_ltI, nI_eq, wuS_1, wuS_2, wuA_1, wuA_21, wuA_22, nI_m1, m1_nI, nIlt_m1, m1lt_nI, Nat.reduceEqDiff, Nat.reduceAdd, Nat.reduceMul, Nat.reduceSub, Nat.reduceLT, Nat.reduceLeDiff, reduceIte, if_true, if_false, Bool.false_eq_true, Nat.add_zero, Nat.zero_add, ne_eq, not_false_eq_true, not_true_eq_false, Nat.not_lt_zero, Nat.add_left_cancel_iff, Nat.add_right_cancel_iff, eq_self, upd_s, pk_sub, nI_pm, Nat.add_sub_cancel, List.length_cons, List.length_nil, Nat.add_eq_zero_iff, Nat.succ_ne_zero, and_false, false_and, l14, l18, l21, l23, l24, l26, l28, l29, l34, l35, l36, l41, l42, l43, l45, l47, l48, l49, l50, l51, l52, l57, l58, l59, l62, l63, l64, l96, l97, l98, l101, l102, l103, l104, l105, l106, l107, l108, l109, l110, l111, l112, l113, l114, l115, l116, l117, l118, l119, l121, l122, l127, l255, l700, l1320, l1000000, h2, h4]
  by_cases q1 : kd b n s = 97
  · rw [if_pos q1]
    by_cases q2 : szT b n s = 3
    · rw [if_pos q2]
      unfold P_X7_is_S12_24
      refine wp_for 3 (fun i σ => σ = (nI i, w) ∧ ∀ m, m < i → b (s + m) = (wl 5).getD m 0) ?_ (Nat.zero_le _) (by omega) ⟨rfl, fun m hm => absurd hm (Nat.not_lt_zero m)⟩
      rintro i _ kk hi ⟨rfl, hm⟩ hkk
      show wpO (B_X7_is_S12_24 o (fun x2 w => kk (x2, w)) _ _ (nI i) w) _
      unfold B_X7_is_S12_24
      by_cases hlt : i < 3
      · obtain ⟨c1, c2⟩ := b3 (s + i) (by omega)
        obtain ⟨c3, c4⟩ := x_ch12 i hlt
        simp (disch := omega) only [xB_s, xB2_s, xGet_s, xPut_s, xAld_s, xAst_s, xIf_t, xBool_s, l0, l1, l2, l3, l4, l5, l6, l7, l8, l9, l10, l11, l12, l13, l15, l16, l17, l19, l20, l25, l27, l30, l31, l32, l33, l39, l40, l60, l61, l99, l100, l120, l256, l999, l1999, l99999, lm, nI_add, pk_mul, nI_leI, nI_ltI, nI_eq, wuS_1, wuS_2, wuA_1, wuA_21, wuA_22, nI_m1, m1_nI, nIlt_m1, m1lt_nI, Nat.reduceEqDiff, Nat.reduceAdd, Nat.reduceMul, Nat.reduceSub, Nat.reduceLT, Nat.reduceLeDiff, reduceIte, if_true, if_false, Bool.false_eq_true, Nat.add_zero, Nat.zero_add, ne_eq, not_false_eq_true, not_true_eq_false, Nat.not_lt_zero, Nat.add_left_cancel_iff, Nat.add_right_cancel_iff, eq_self, upd_s, pk_sub, nI_pm, Nat.add_sub_cancel, List.length_cons, List.length_nil, Nat.add_eq_zero_iff, Nat.succ_ne_zero, and_false, false_and, l14, l18, l21, l23, l24, l26, l28, l29, l34, l35, l36, l41, l42, l43, l45, l47, l48, l49, l50, l51, l52, l57, l58, l59, l62, l63, l64, l96, l97, l98, l101, l102, l103, l104, l105, l106, l107, l108, l109, l110, l111, l112, l113, l114, l115, l116, l117, l118, l119, l121, l122, l127, l255, l700, l1320, l1000000, h4, q2, h3, show (3 ≤ i) = False from eq_false (by omega), c2, c3]
        by_cases q3 : b (s + i) = (wl 5).getD i 0
        · rw [if_pos ((sg_eq _ c1 _ c4).mpr q3)]
          refine hkk hlt _ ⟨rfl, fun m hm' => ?_⟩
          by_cases e : m = i
          · rw [e]; exact q3
          · exact hm m (by omega)
        · rw [if_neg (fun z => q3 ((sg_eq _ c1 _ c4).mp z)), if_neg (fun z => q3 (z.2.2 i hlt))]
          exact wp_some rfl
      · obtain rfl : i = 3 := by omega
        simp (disch := omega) only [xB_s, xB2_s, xGet_s, xPut_s, xAld_s, xAst_s, xIf_t, xBool_s, l0, l1, l2, l3, l4, l5, l6, l7, l8, l9, l10, l11, l12, l13, l15, l16, l17, l19, l20, l25, l27, l30, l31, l32, l33, l39, l40, l60, l61, l99, l100, l120, l256, l999, l1999, l99999, lm, nI_add, pk_mul, nI_leI, nI_ltI, nI_eq, wuS_1, wuS_2, wuA_1, wuA_21, wuA_22, nI_m1, m1_nI, nIlt_m1, m1lt_nI, Nat.reduceEqDiff, Nat.reduceAdd, Nat.reduceMul, Nat.reduceSub, Nat.reduceLT, Nat.reduceLeDiff, reduceIte, if_true, if_false, Bool.false_eq_true, Nat.add_zero, Nat.zero_add, ne_eq, not_false_eq_true, not_true_eq_false, Nat.not_lt_zero, Nat.add_left_cancel_iff, Nat.add_right_cancel_iff, eq_self, upd_s, pk_sub, nI_pm, Nat.add_sub_cancel, List.length_cons, List.length_nil, Nat.add_eq_zero_iff, Nat.succ_ne_zero, and_false, false_and, l14, l18, l21, l23, l24, l26, l28, l29, l34, l35, l36, l41, l42, l43, l45, l47, l48, l49, l50, l51, l52, l57, l58, l59, l62, l63, l64, l96, l97, l98, l101, l102, l103, l104, l105, l106, l107, l108, l109, l110, l111, l112, l113, l114, l115, l116, l117, l118, l119, l121, l122, l127, l255, l700, l1320, l1000000, h4, q2]
        rw [if_pos ⟨q1, q2, fun m hm' => hm m hm'⟩]
        exact wp_some rfl
    · rw [if_neg q2, if_neg (fun z => q2 z.2.1)]
      exact wp_some rfl
  · rw [if_neg q1, if_neg (fun z => q1 z.1)]
    exact wp_some rfl
theorem x_ch13 : ∀ i, i < 3 → xChr (aChr.getD 13 []) (nI i) = some (nI ((wl 6).getD i 0)) ∧ (wl 6).getD i 0 < 123 := by decide +kernel
theorem x_is6 {b : Nat → Nat} {n s : Nat} {o : wO} {w : wS} (h : TX b n s w) : L_X7_is_S13 o w = some (nI (if wIs b n s (wl 6) then 1 else 0), w) := by
  obtain ⟨⟨b1, b2, b3⟩, hs, h2, h3, h4⟩ := h
  have hz := szT_le (b := b) hs
  have hk := kd_lt (b := b) (n := n) (s := s) (fun i hi => (b3 i hi).1)
  suffices h : wpO (L_X7_is_S13 o w) (fun r => r = (nI (if wIs b n s (wl 6) then 1 else 0), w)) by
    obtain ⟨a, e, rfl⟩ := h; exact e
  unfold L_X7_is_S13 J_X7_is_S13_20
  simp (disch := omega) only [xB_s, xB2_s, xGet_s, xPut_s, xAld_s, xAst_s, xIf_t, xBool_s, l0, l1, l2, l3, l4, l5, l6, l7, l8, l9, l10, l11, l12, l13, l15, l16, l17, l19, l20, l25, l27, l30, l31, l32, l33, l39, l40, l60, l61, l99, l100, l120, l256, l999, l1999, l99999, lm, nI_add, pk_mul, nI_leI, nI_ltI, nI_eq, wuS_1, wuS_2, wuA_1, wuA_21, wuA_22, nI_m1, m1_nI, nIlt_m1, m1lt_nI, Nat.reduceEqDiff, Nat.reduceAdd, Nat.reduceMul, Nat.reduceSub, Nat.reduceLT, Nat.reduceLeDiff, reduceIte, if_true, if_false, Bool.false_eq_true, Nat.add_zero, Nat.zero_add, ne_eq, not_false_eq_true, not_true_eq_false, Nat.not_lt_zero, Nat.add_left_cancel_iff, Nat.add_right_cancel_iff, eq_self, upd_s, pk_sub, nI_pm, Nat.add_sub_cancel, List.length_cons, List.length_nil, Nat.add_eq_zero_iff, Nat.succ_ne_zero, and_false, false_and, l14, l18, l21, l23, l24, l26, l28, l29, l34, l35, l36, l41, l42, l43, l45, l47, l48, l49, l50, l51, l52, l57, l58, l59, l62, l63, l64, l96, l97, l98, l101, l102, l103, l104, l105, l106, l107, l108, l109, l110, l111, l112, l113, l114, l115, l116, l117, l118, l119, l121, l122, l127, l255, l700, l1320, l1000000, h2, h4]
  by_cases q1 : kd b n s = 97
  · rw [if_pos q1]
    by_cases q2 : szT b n s = 3
    · rw [if_pos q2]
      unfold P_X7_is_S13_24
      refine wp_for 3 (fun i σ => σ = (nI i, w) ∧ ∀ m, m < i → b (s + m) = (wl 6).getD m 0) ?_ (Nat.zero_le _) (by omega) ⟨rfl, fun m hm => absurd hm (Nat.not_lt_zero m)⟩
      rintro i _ kk hi ⟨rfl, hm⟩ hkk
      show wpO (B_X7_is_S13_24 o (fun x2 w => kk (x2, w)) _ _ (nI i) w) _
      unfold B_X7_is_S13_24
      by_cases hlt : i < 3
      · obtain ⟨c1, c2⟩ := b3 (s + i) (by omega)
        obtain ⟨c3, c4⟩ := x_ch13 i hlt
        simp (disch := omega) only [xB_s, xB2_s, xGet_s, xPut_s, xAld_s, xAst_s, xIf_t, xBool_s, l0, l1, l2, l3, l4, l5, l6, l7, l8, l9, l10, l11, l12, l13, l15, l16, l17, l19, l20, l25, l27, l30, l31, l32, l33, l39, l40, l60, l61, l99, l100, l120, l256, l999, l1999, l99999, lm, nI_add, pk_mul, nI_leI, nI_ltI, nI_eq, wuS_1, wuS_2, wuA_1, wuA_21, wuA_22, nI_m1, m1_nI, nIlt_m1, m1lt_nI, Nat.reduceEqDiff, Nat.reduceAdd, Nat.reduceMul, Nat.reduceSub, Nat.reduceLT, Nat.reduceLeDiff, reduceIte, if_true, if_false, Bool.false_eq_true, Nat.add_zero, Nat.zero_add, ne_eq, not_false_eq_true, not_true_eq_false, Nat.not_lt_zero, Nat.add_left_cancel_iff, Nat.add_right_cancel_iff, eq_self, upd_s, pk_sub, nI_pm, Nat.add_sub_cancel, List.length_cons, List.length_nil, Nat.add_eq_zero_iff, Nat.succ_ne_zero, and_false, false_and, l14, l18, l21, l23, l24, l26, l28, l29, l34, l35, l36, l41, l42, l43, l45, l47, l48, l49, l50, l51, l52, l57, l58, l59, l62, l63, l64, l96, l97, l98, l101, l102, l103, l104, l105, l106, l107, l108, l109, l110, l111, l112, l113, l114, l115, l116, l117, l118, l119, l121, l122, l127, l255, l700, l1320, l1000000, h4, q2, h3, show (3 ≤ i) = False from eq_false (by omega), c2, c3]
        by_cases q3 : b (s + i) = (wl 6).getD i 0
        · rw [if_pos ((sg_eq _ c1 _ c4).mpr q3)]
          refine hkk hlt _ ⟨rfl, fun m hm' => ?_⟩
          by_cases e : m = i
          · rw [e]; exact q3
          · exact hm m (by omega)
        · rw [if_neg (fun z => q3 ((sg_eq _ c1 _ c4).mp z)), if_neg (fun z => q3 (z.2.2 i hlt))]
          exact wp_some rfl
      · obtain rfl : i = 3 := by omega
        simp (disch := omega) only [xB_s, xB2_s, xGet_s, xPut_s, xAld_s, xAst_s, xIf_t, xBool_s, l0, l1, l2, l3, l4, l5, l6, l7, l8, l9, l10, l11, l12, l13, l15, l16, l17, l19, l20, l25, l27, l30, l31, l32, l33, l39, l40, l60, l61, l99, l100, l120, l256, l999, l1999, l99999, lm, nI_add, pk_mul, nI_leI, nI_ltI, nI_eq, wuS_1, wuS_2, wuA_1, wuA_21, wuA_22, nI_m1, m1_nI, nIlt_m1, m1lt_nI, Nat.reduceEqDiff, Nat.reduceAdd, Nat.reduceMul, Nat.reduceSub, Nat.reduceLT, Nat.reduceLeDiff, reduceIte, if_true, if_false, Bool.false_eq_true, Nat.add_zero, Nat.zero_add, ne_eq, not_false_eq_true, not_true_eq_false, Nat.not_lt_zero, Nat.add_left_cancel_iff, Nat.add_right_cancel_iff, eq_self, upd_s, pk_sub, nI_pm, Nat.add_sub_cancel, List.length_cons, List.length_nil, Nat.add_eq_zero_iff, Nat.succ_ne_zero, and_false, false_and, l14, l18, l21, l23, l24, l26, l28, l29, l34, l35, l36, l41, l42, l43, l45, l47, l48, l49, l50, l51, l52, l57, l58, l59, l62, l63, l64, l96, l97, l98, l101, l102, l103, l104, l105, l106, l107, l108, l109, l110, l111, l112, l113, l114, l115, l116, l117, l118, l119, l121, l122, l127, l255, l700, l1320, l1000000, h4, q2]
        rw [if_pos ⟨q1, q2, fun m hm' => hm m hm'⟩]
        exact wp_some rfl
    · rw [if_neg q2, if_neg (fun z => q2 z.2.1)]
      exact wp_some rfl
  · rw [if_neg q1, if_neg (fun z => q1 z.1)]
    exact wp_some rfl
theorem x_ch1 : ∀ i, i < 6 → xChr (aChr.getD 1 []) (nI i) = some (nI ((wl 7).getD i 0)) ∧ (wl 7).getD i 0 < 123 := by decide +kernel
theorem x_is7 {b : Nat → Nat} {n s : Nat} {o : wO} {w : wS} (h : TX b n s w) : L_X7_is_S1 o w = some (nI (if wIs b n s (wl 7) then 1 else 0), w) := by
  obtain ⟨⟨b1, b2, b3⟩, hs, h2, h3, h4⟩ := h
  have hz := szT_le (b := b) hs
  have hk := kd_lt (b := b) (n := n) (s := s) (fun i hi => (b3 i hi).1)
  suffices h : wpO (L_X7_is_S1 o w) (fun r => r = (nI (if wIs b n s (wl 7) then 1 else 0), w)) by
    obtain ⟨a, e, rfl⟩ := h; exact e
  unfold L_X7_is_S1 J_X7_is_S1_20
  simp (disch := omega) only [xB_s, xB2_s, xGet_s, xPut_s, xAld_s, xAst_s, xIf_t, xBool_s, l0, l1, l2, l3, l4, l5, l6, l7, l8, l9, l10, l11, l12, l13, l15, l16, l17, l19, l20, l25, l27, l30, l31, l32, l33, l39, l40, l60, l61, l99, l100, l120, l256, l999, l1999, l99999, lm, nI_add, pk_mul, nI_leI, nI_ltI, nI_eq, wuS_1, wuS_2, wuA_1, wuA_21, wuA_22, nI_m1, m1_nI, nIlt_m1, m1lt_nI, Nat.reduceEqDiff, Nat.reduceAdd, Nat.reduceMul, Nat.reduceSub, Nat.reduceLT, Nat.reduceLeDiff, reduceIte, if_true, if_false, Bool.false_eq_true, Nat.add_zero, Nat.zero_add, ne_eq, not_false_eq_true, not_true_eq_false, Nat.not_lt_zero, Nat.add_left_cancel_iff, Nat.add_right_cancel_iff, eq_self, upd_s, pk_sub, nI_pm, Nat.add_sub_cancel, List.length_cons, List.length_nil, Nat.add_eq_zero_iff, Nat.succ_ne_zero, and_false, false_and, l14, l18, l21, l23, l24, l26, l28, l29, l34, l35, l36, l41, l42, l43, l45, l47, l48, l49, l50, l51, l52, l57, l58, l59, l62, l63, l64, l96, l97, l98, l101, l102, l103, l104, l105, l106, l107, l108, l109, l110, l111, l112, l113, l114, l115, l116, l117, l118, l119, l121, l122, l127, l255, l700, l1320, l1000000, h2, h4]
  by_cases q1 : kd b n s = 97
  · rw [if_pos q1]
    by_cases q2 : szT b n s = 6
    · rw [if_pos q2]
      unfold P_X7_is_S1_24
      refine wp_for 6 (fun i σ => σ = (nI i, w) ∧ ∀ m, m < i → b (s + m) = (wl 7).getD m 0) ?_ (Nat.zero_le _) (by omega) ⟨rfl, fun m hm => absurd hm (Nat.not_lt_zero m)⟩
      rintro i _ kk hi ⟨rfl, hm⟩ hkk
      show wpO (B_X7_is_S1_24 o (fun x2 w => kk (x2, w)) _ _ (nI i) w) _
      unfold B_X7_is_S1_24
      by_cases hlt : i < 6
      · obtain ⟨c1, c2⟩ := b3 (s + i) (by omega)
        obtain ⟨c3, c4⟩ := x_ch1 i hlt
        simp (disch := omega) only [xB_s, xB2_s, xGet_s, xPut_s, xAld_s, xAst_s, xIf_t, xBool_s, l0, l1, l2, l3, l4, l5, l6, l7, l8, l9, l10, l11, l12, l13, l15, l16, l17, l19, l20, l25, l27, l30, l31, l32, l33, l39, l40, l60, l61, l99, l100, l120, l256, l999, l1999, l99999, lm, nI_add, pk_mul, nI_leI, nI_ltI, nI_eq, wuS_1, wuS_2, wuA_1, wuA_21, wuA_22, nI_m1, m1_nI, nIlt_m1, m1lt_nI, Nat.reduceEqDiff, Nat.reduceAdd, Nat.reduceMul, Nat.reduceSub, Nat.reduceLT, Nat.reduceLeDiff, reduceIte, if_true, if_false, Bool.false_eq_true, Nat.add_zero, Nat.zero_add, ne_eq, not_false_eq_true, not_true_eq_false, Nat.not_lt_zero, Nat.add_left_cancel_iff, Nat.add_right_cancel_iff, eq_self, upd_s, pk_sub, nI_pm, Nat.add_sub_cancel, List.length_cons, List.length_nil, Nat.add_eq_zero_iff, Nat.succ_ne_zero, and_false, false_and, l14, l18, l21, l23, l24, l26, l28, l29, l34, l35, l36, l41, l42, l43, l45, l47, l48, l49, l50, l51, l52, l57, l58, l59, l62, l63, l64, l96, l97, l98, l101, l102, l103, l104, l105, l106, l107, l108, l109, l110, l111, l112, l113, l114, l115, l116, l117, l118, l119, l121, l122, l127, l255, l700, l1320, l1000000, h4, q2, h3, show (6 ≤ i) = False from eq_false (by omega), c2, c3]
        by_cases q3 : b (s + i) = (wl 7).getD i 0
        · rw [if_pos ((sg_eq _ c1 _ c4).mpr q3)]
          refine hkk hlt _ ⟨rfl, fun m hm' => ?_⟩
          by_cases e : m = i
          · rw [e]; exact q3
          · exact hm m (by omega)
        · rw [if_neg (fun z => q3 ((sg_eq _ c1 _ c4).mp z)), if_neg (fun z => q3 (z.2.2 i hlt))]
          exact wp_some rfl
      · obtain rfl : i = 6 := by omega
        simp (disch := omega) only [xB_s, xB2_s, xGet_s, xPut_s, xAld_s, xAst_s, xIf_t, xBool_s, l0, l1, l2, l3, l4, l5, l6, l7, l8, l9, l10, l11, l12, l13, l15, l16, l17, l19, l20, l25, l27, l30, l31, l32, l33, l39, l40, l60, l61, l99, l100, l120, l256, l999, l1999, l99999, lm, nI_add, pk_mul, nI_leI, nI_ltI, nI_eq, wuS_1, wuS_2, wuA_1, wuA_21, wuA_22, nI_m1, m1_nI, nIlt_m1, m1lt_nI, Nat.reduceEqDiff, Nat.reduceAdd, Nat.reduceMul, Nat.reduceSub, Nat.reduceLT, Nat.reduceLeDiff, reduceIte, if_true, if_false, Bool.false_eq_true, Nat.add_zero, Nat.zero_add, ne_eq, not_false_eq_true, not_true_eq_false, Nat.not_lt_zero, Nat.add_left_cancel_iff, Nat.add_right_cancel_iff, eq_self, upd_s, pk_sub, nI_pm, Nat.add_sub_cancel, List.length_cons, List.length_nil, Nat.add_eq_zero_iff, Nat.succ_ne_zero, and_false, false_and, l14, l18, l21, l23, l24, l26, l28, l29, l34, l35, l36, l41, l42, l43, l45, l47, l48, l49, l50, l51, l52, l57, l58, l59, l62, l63, l64, l96, l97, l98, l101, l102, l103, l104, l105, l106, l107, l108, l109, l110, l111, l112, l113, l114, l115, l116, l117, l118, l119, l121, l122, l127, l255, l700, l1320, l1000000, h4, q2]
        rw [if_pos ⟨q1, q2, fun m hm' => hm m hm'⟩]
        exact wp_some rfl
    · rw [if_neg q2, if_neg (fun z => q2 z.2.1)]
      exact wp_some rfl
  · rw [if_neg q1, if_neg (fun z => q1 z.1)]
    exact wp_some rfl
theorem x_ch2 : ∀ i, i < 4 → xChr (aChr.getD 2 []) (nI i) = some (nI ((wl 8).getD i 0)) ∧ (wl 8).getD i 0 < 123 := by decide +kernel
theorem x_is8 {b : Nat → Nat} {n s : Nat} {o : wO} {w : wS} (h : TX b n s w) : L_X7_is_S2 o w = some (nI (if wIs b n s (wl 8) then 1 else 0), w) := by
  obtain ⟨⟨b1, b2, b3⟩, hs, h2, h3, h4⟩ := h
  have hz := szT_le (b := b) hs
  have hk := kd_lt (b := b) (n := n) (s := s) (fun i hi => (b3 i hi).1)
  suffices h : wpO (L_X7_is_S2 o w) (fun r => r = (nI (if wIs b n s (wl 8) then 1 else 0), w)) by
    obtain ⟨a, e, rfl⟩ := h; exact e
  unfold L_X7_is_S2 J_X7_is_S2_20
  simp (disch := omega) only [xB_s, xB2_s, xGet_s, xPut_s, xAld_s, xAst_s, xIf_t, xBool_s, l0, l1, l2, l3, l4, l5, l6, l7, l8, l9, l10, l11, l12, l13, l15, l16, l17, l19, l20, l25, l27, l30, l31, l32, l33, l39, l40, l60, l61, l99, l100, l120, l256, l999, l1999, l99999, lm, nI_add, pk_mul, nI_leI, nI_ltI, nI_eq, wuS_1, wuS_2, wuA_1, wuA_21, wuA_22, nI_m1, m1_nI, nIlt_m1, m1lt_nI, Nat.reduceEqDiff, Nat.reduceAdd, Nat.reduceMul, Nat.reduceSub, Nat.reduceLT, Nat.reduceLeDiff, reduceIte, if_true, if_false, Bool.false_eq_true, Nat.add_zero, Nat.zero_add, ne_eq, not_false_eq_true, not_true_eq_false, Nat.not_lt_zero, Nat.add_left_cancel_iff, Nat.add_right_cancel_iff, eq_self, upd_s, pk_sub, nI_pm, Nat.add_sub_cancel, List.length_cons, List.length_nil, Nat.add_eq_zero_iff, Nat.succ_ne_zero, and_false, false_and, l14, l18, l21, l23, l24, l26, l28, l29, l34, l35, l36, l41, l42, l43, l45, l47, l48, l49, l50, l51, l52, l57, l58, l59, l62, l63, l64, l96, l97, l98, l101, l102, l103, l104, l105, l106, l107, l108, l109, l110, l111, l112, l113, l114, l115, l116, l117, l118, l119, l121, l122, l127, l255, l700, l1320, l1000000, h2, h4]
  by_cases q1 : kd b n s = 97
  · rw [if_pos q1]
    by_cases q2 : szT b n s = 4
    · rw [if_pos q2]
      unfold P_X7_is_S2_24
      refine wp_for 4 (fun i σ => σ = (nI i, w) ∧ ∀ m, m < i → b (s + m) = (wl 8).getD m 0) ?_ (Nat.zero_le _) (by omega) ⟨rfl, fun m hm => absurd hm (Nat.not_lt_zero m)⟩
      rintro i _ kk hi ⟨rfl, hm⟩ hkk
      show wpO (B_X7_is_S2_24 o (fun x2 w => kk (x2, w)) _ _ (nI i) w) _
      unfold B_X7_is_S2_24
      by_cases hlt : i < 4
      · obtain ⟨c1, c2⟩ := b3 (s + i) (by omega)
        obtain ⟨c3, c4⟩ := x_ch2 i hlt
        simp (disch := omega) only [xB_s, xB2_s, xGet_s, xPut_s, xAld_s, xAst_s, xIf_t, xBool_s, l0, l1, l2, l3, l4, l5, l6, l7, l8, l9, l10, l11, l12, l13, l15, l16, l17, l19, l20, l25, l27, l30, l31, l32, l33, l39, l40, l60, l61, l99, l100, l120, l256, l999, l1999, l99999, lm, nI_add, pk_mul, nI_leI, nI_ltI, nI_eq, wuS_1, wuS_2, wuA_1, wuA_21, wuA_22, nI_m1, m1_nI, nIlt_m1, m1lt_nI, Nat.reduceEqDiff, Nat.reduceAdd, Nat.reduceMul, Nat.reduceSub, Nat.reduceLT, Nat.reduceLeDiff, reduceIte, if_true, if_false, Bool.false_eq_true, Nat.add_zero, Nat.zero_add, ne_eq, not_false_eq_true, not_true_eq_false, Nat.not_lt_zero, Nat.add_left_cancel_iff, Nat.add_right_cancel_iff, eq_self, upd_s, pk_sub, nI_pm, Nat.add_sub_cancel, List.length_cons, List.length_nil, Nat.add_eq_zero_iff, Nat.succ_ne_zero, and_false, false_and, l14, l18, l21, l23, l24, l26, l28, l29, l34, l35, l36, l41, l42, l43, l45, l47, l48, l49, l50, l51, l52, l57, l58, l59, l62, l63, l64, l96, l97, l98, l101, l102, l103, l104, l105, l106, l107, l108, l109, l110, l111, l112, l113, l114, l115, l116, l117, l118, l119, l121, l122, l127, l255, l700, l1320, l1000000, h4, q2, h3, show (4 ≤ i) = False from eq_false (by omega), c2, c3]
        by_cases q3 : b (s + i) = (wl 8).getD i 0
        · rw [if_pos ((sg_eq _ c1 _ c4).mpr q3)]
          refine hkk hlt _ ⟨rfl, fun m hm' => ?_⟩
          by_cases e : m = i
          · rw [e]; exact q3
          · exact hm m (by omega)
        · rw [if_neg (fun z => q3 ((sg_eq _ c1 _ c4).mp z)), if_neg (fun z => q3 (z.2.2 i hlt))]
          exact wp_some rfl
      · obtain rfl : i = 4 := by omega
        simp (disch := omega) only [xB_s, xB2_s, xGet_s, xPut_s, xAld_s, xAst_s, xIf_t, xBool_s, l0, l1, l2, l3, l4, l5, l6, l7, l8, l9, l10, l11, l12, l13, l15, l16, l17, l19, l20, l25, l27, l30, l31, l32, l33, l39, l40, l60, l61, l99, l100, l120, l256, l999, l1999, l99999, lm, nI_add, pk_mul, nI_leI, nI_ltI, nI_eq, wuS_1, wuS_2, wuA_1, wuA_21, wuA_22, nI_m1, m1_nI, nIlt_m1, m1lt_nI, Nat.reduceEqDiff, Nat.reduceAdd, Nat.reduceMul, Nat.reduceSub, Nat.reduceLT, Nat.reduceLeDiff, reduceIte, if_true, if_false, Bool.false_eq_true, Nat.add_zero, Nat.zero_add, ne_eq, not_false_eq_true, not_true_eq_false, Nat.not_lt_zero, Nat.add_left_cancel_iff, Nat.add_right_cancel_iff, eq_self, upd_s, pk_sub, nI_pm, Nat.add_sub_cancel, List.length_cons, List.length_nil, Nat.add_eq_zero_iff, Nat.succ_ne_zero, and_false, false_and, l14, l18, l21, l23, l24, l26, l28, l29, l34, l35, l36, l41, l42, l43, l45, l47, l48, l49, l50, l51, l52, l57, l58, l59, l62, l63, l64, l96, l97, l98, l101, l102, l103, l104, l105, l106, l107, l108, l109, l110, l111, l112, l113, l114, l115, l116, l117, l118, l119, l121, l122, l127, l255, l700, l1320, l1000000, h4, q2]
        rw [if_pos ⟨q1, q2, fun m hm' => hm m hm'⟩]
        exact wp_some rfl
    · rw [if_neg q2, if_neg (fun z => q2 z.2.1)]
      exact wp_some rfl
  · rw [if_neg q1, if_neg (fun z => q1 z.1)]
    exact wp_some rfl
theorem x_ch3 : ∀ i, i < 4 → xChr (aChr.getD 3 []) (nI i) = some (nI ((wl 9).getD i 0)) ∧ (wl 9).getD i 0 < 123 := by decide +kernel
theorem x_is9 {b : Nat → Nat} {n s : Nat} {o : wO} {w : wS} (h : TX b n s w) : L_X7_is_S3 o w = some (nI (if wIs b n s (wl 9) then 1 else 0), w) := by
  obtain ⟨⟨b1, b2, b3⟩, hs, h2, h3, h4⟩ := h
  have hz := szT_le (b := b) hs
  have hk := kd_lt (b := b) (n := n) (s := s) (fun i hi => (b3 i hi).1)
  suffices h : wpO (L_X7_is_S3 o w) (fun r => r = (nI (if wIs b n s (wl 9) then 1 else 0), w)) by
    obtain ⟨a, e, rfl⟩ := h; exact e
  unfold L_X7_is_S3 J_X7_is_S3_20
  simp (disch := omega) only [xB_s, xB2_s, xGet_s, xPut_s, xAld_s, xAst_s, xIf_t, xBool_s, l0, l1, l2, l3, l4, l5, l6, l7, l8, l9, l10, l11, l12, l13, l15, l16, l17, l19, l20, l25, l27, l30, l31, l32, l33, l39, l40, l60, l61, l99, l100, l120, l256, l999, l1999, l99999, lm, nI_add, pk_mul, nI_leI, nI_ltI, nI_eq, wuS_1, wuS_2, wuA_1, wuA_21, wuA_22, nI_m1, m1_nI, nIlt_m1, m1lt_nI, Nat.reduceEqDiff, Nat.reduceAdd, Nat.reduceMul, Nat.reduceSub, Nat.reduceLT, Nat.reduceLeDiff, reduceIte, if_true, if_false, Bool.false_eq_true, Nat.add_zero, Nat.zero_add, ne_eq, not_false_eq_true, not_true_eq_false, Nat.not_lt_zero, Nat.add_left_cancel_iff, Nat.add_right_cancel_iff, eq_self, upd_s, pk_sub, nI_pm, Nat.add_sub_cancel, List.length_cons, List.length_nil, Nat.add_eq_zero_iff, Nat.succ_ne_zero, and_false, false_and, l14, l18, l21, l23, l24, l26, l28, l29, l34, l35, l36, l41, l42, l43, l45, l47, l48, l49, l50, l51, l52, l57, l58, l59, l62, l63, l64, l96, l97, l98, l101, l102, l103, l104, l105, l106, l107, l108, l109, l110, l111, l112, l113, l114, l115, l116, l117, l118, l119, l121, l122, l127, l255, l700, l1320, l1000000, h2, h4]
  by_cases q1 : kd b n s = 97
  · rw [if_pos q1]
    by_cases q2 : szT b n s = 4
    · rw [if_pos q2]
      unfold P_X7_is_S3_24
      refine wp_for 4 (fun i σ => σ = (nI i, w) ∧ ∀ m, m < i → b (s + m) = (wl 9).getD m 0) ?_ (Nat.zero_le _) (by omega) ⟨rfl, fun m hm => absurd hm (Nat.not_lt_zero m)⟩
      rintro i _ kk hi ⟨rfl, hm⟩ hkk
      show wpO (B_X7_is_S3_24 o (fun x2 w => kk (x2, w)) _ _ (nI i) w) _
      unfold B_X7_is_S3_24
      by_cases hlt : i < 4
      · obtain ⟨c1, c2⟩ := b3 (s + i) (by omega)
        obtain ⟨c3, c4⟩ := x_ch3 i hlt
        simp (disch := omega) only [xB_s, xB2_s, xGet_s, xPut_s, xAld_s, xAst_s, xIf_t, xBool_s, l0, l1, l2, l3, l4, l5, l6, l7, l8, l9, l10, l11, l12, l13, l15, l16, l17, l19, l20, l25, l27, l30, l31, l32, l33, l39, l40, l60, l61, l99, l100, l120, l256, l999, l1999, l99999, lm, nI_add, pk_mul, nI_leI, nI_ltI, nI_eq, wuS_1, wuS_2, wuA_1, wuA_21, wuA_22, nI_m1, m1_nI, nIlt_m1, m1lt_nI, Nat.reduceEqDiff, Nat.reduceAdd, Nat.reduceMul, Nat.reduceSub, Nat.reduceLT, Nat.reduceLeDiff, reduceIte, if_true, if_false, Bool.false_eq_true, Nat.add_zero, Nat.zero_add, ne_eq, not_false_eq_true, not_true_eq_false, Nat.not_lt_zero, Nat.add_left_cancel_iff, Nat.add_right_cancel_iff, eq_self, upd_s, pk_sub, nI_pm, Nat.add_sub_cancel, List.length_cons, List.length_nil, Nat.add_eq_zero_iff, Nat.succ_ne_zero, and_false, false_and, l14, l18, l21, l23, l24, l26, l28, l29, l34, l35, l36, l41, l42, l43, l45, l47, l48, l49, l50, l51, l52, l57, l58, l59, l62, l63, l64, l96, l97, l98, l101, l102, l103, l104, l105, l106, l107, l108, l109, l110, l111, l112, l113, l114, l115, l116, l117, l118, l119, l121, l122, l127, l255, l700, l1320, l1000000, h4, q2, h3, show (4 ≤ i) = False from eq_false (by omega), c2, c3]
        by_cases q3 : b (s + i) = (wl 9).getD i 0
        · rw [if_pos ((sg_eq _ c1 _ c4).mpr q3)]
          refine hkk hlt _ ⟨rfl, fun m hm' => ?_⟩
          by_cases e : m = i
          · rw [e]; exact q3
          · exact hm m (by omega)
        · rw [if_neg (fun z => q3 ((sg_eq _ c1 _ c4).mp z)), if_neg (fun z => q3 (z.2.2 i hlt))]
          exact wp_some rfl
      · obtain rfl : i = 4 := by omega
        simp (disch := omega) only [xB_s, xB2_s, xGet_s, xPut_s, xAld_s, xAst_s, xIf_t, xBool_s, l0, l1, l2, l3, l4, l5, l6, l7, l8, l9, l10, l11, l12, l13, l15, l16, l17, l19, l20, l25, l27, l30, l31, l32, l33, l39, l40, l60, l61, l99, l100, l120, l256, l999, l1999, l99999, lm, nI_add, pk_mul, nI_leI, nI_ltI, nI_eq, wuS_1, wuS_2, wuA_1, wuA_21, wuA_22, nI_m1, m1_nI, nIlt_m1, m1lt_nI, Nat.reduceEqDiff, Nat.reduceAdd, Nat.reduceMul, Nat.reduceSub, Nat.reduceLT, Nat.reduceLeDiff, reduceIte, if_true, if_false, Bool.false_eq_true, Nat.add_zero, Nat.zero_add, ne_eq, not_false_eq_true, not_true_eq_false, Nat.not_lt_zero, Nat.add_left_cancel_iff, Nat.add_right_cancel_iff, eq_self, upd_s, pk_sub, nI_pm, Nat.add_sub_cancel, List.length_cons, List.length_nil, Nat.add_eq_zero_iff, Nat.succ_ne_zero, and_false, false_and, l14, l18, l21, l23, l24, l26, l28, l29, l34, l35, l36, l41, l42, l43, l45, l47, l48, l49, l50, l51, l52, l57, l58, l59, l62, l63, l64, l96, l97, l98, l101, l102, l103, l104, l105, l106, l107, l108, l109, l110, l111, l112, l113, l114, l115, l116, l117, l118, l119, l121, l122, l127, l255, l700, l1320, l1000000, h4, q2]
        rw [if_pos ⟨q1, q2, fun m hm' => hm m hm'⟩]
        exact wp_some rfl
    · rw [if_neg q2, if_neg (fun z => q2 z.2.1)]
      exact wp_some rfl
  · rw [if_neg q1, if_neg (fun z => q1 z.1)]
    exact wp_some rfl
theorem x_ch5 : ∀ i, i < 4 → xChr (aChr.getD 5 []) (nI i) = some (nI ((wl 10).getD i 0)) ∧ (wl 10).getD i 0 < 123 := by decide +kernel
theorem x_is10 {b : Nat → Nat} {n s : Nat} {o : wO} {w : wS} (h : TX b n s w) : L_X7_is_S5 o w = some (nI (if wIs b n s (wl 10) then 1 else 0), w) := by
  obtain ⟨⟨b1, b2, b3⟩, hs, h2, h3, h4⟩ := h
  have hz := szT_le (b := b) hs
  have hk := kd_lt (b := b) (n := n) (s := s) (fun i hi => (b3 i hi).1)
  suffices h : wpO (L_X7_is_S5 o w) (fun r => r = (nI (if wIs b n s (wl 10) then 1 else 0), w)) by
    obtain ⟨a, e, rfl⟩ := h; exact e
  unfold L_X7_is_S5 J_X7_is_S5_20
  simp (disch := omega) only [xB_s, xB2_s, xGet_s, xPut_s, xAld_s, xAst_s, xIf_t, xBool_s, l0, l1, l2, l3, l4, l5, l6, l7, l8, l9, l10, l11, l12, l13, l15, l16, l17, l19, l20, l25, l27, l30, l31, l32, l33, l39, l40, l60, l61, l99, l100, l120, l256, l999, l1999, l99999, lm, nI_add, pk_mul, nI_leI, nI_ltI, nI_eq, wuS_1, wuS_2, wuA_1, wuA_21, wuA_22, nI_m1, m1_nI, nIlt_m1, m1lt_nI, Nat.reduceEqDiff, Nat.reduceAdd, Nat.reduceMul, Nat.reduceSub, Nat.reduceLT, Nat.reduceLeDiff, reduceIte, if_true, if_false, Bool.false_eq_true, Nat.add_zero, Nat.zero_add, ne_eq, not_false_eq_true, not_true_eq_false, Nat.not_lt_zero, Nat.add_left_cancel_iff, Nat.add_right_cancel_iff, eq_self, upd_s, pk_sub, nI_pm, Nat.add_sub_cancel, List.length_cons, List.length_nil, Nat.add_eq_zero_iff, Nat.succ_ne_zero, and_false, false_and, l14, l18, l21, l23, l24, l26, l28, l29, l34, l35, l36, l41, l42, l43, l45, l47, l48, l49, l50, l51, l52, l57, l58, l59, l62, l63, l64, l96, l97, l98, l101, l102, l103, l104, l105, l106, l107, l108, l109, l110, l111, l112, l113, l114, l115, l116, l117, l118, l119, l121, l122, l127, l255, l700, l1320, l1000000, h2, h4]
  by_cases q1 : kd b n s = 97
  · rw [if_pos q1]
    by_cases q2 : szT b n s = 4
    · rw [if_pos q2]
      unfold P_X7_is_S5_24
      refine wp_for 4 (fun i σ => σ = (nI i, w) ∧ ∀ m, m < i → b (s + m) = (wl 10).getD m 0) ?_ (Nat.zero_le _) (by omega) ⟨rfl, fun m hm => absurd hm (Nat.not_lt_zero m)⟩
      rintro i _ kk hi ⟨rfl, hm⟩ hkk
      show wpO (B_X7_is_S5_24 o (fun x2 w => kk (x2, w)) _ _ (nI i) w) _
      unfold B_X7_is_S5_24
      by_cases hlt : i < 4
      · obtain ⟨c1, c2⟩ := b3 (s + i) (by omega)
        obtain ⟨c3, c4⟩ := x_ch5 i hlt
        simp (disch := omega) only [xB_s, xB2_s, xGet_s, xPut_s, xAld_s, xAst_s, xIf_t, xBool_s, l0, l1, l2, l3, l4, l5, l6, l7, l8, l9, l10, l11, l12, l13, l15, l16, l17, l19, l20, l25, l27, l30, l31, l32, l33, l39, l40, l60, l61, l99, l100, l120, l256, l999, l1999, l99999, lm, nI_add, pk_mul, nI_leI, nI_ltI, nI_eq, wuS_1, wuS_2, wuA_1, wuA_21, wuA_22, nI_m1, m1_nI, nIlt_m1, m1lt_nI, Nat.reduceEqDiff, Nat.reduceAdd, Nat.reduceMul, Nat.reduceSub, Nat.reduceLT, Nat.reduceLeDiff, reduceIte, if_true, if_false, Bool.false_eq_true, Nat.add_zero, Nat.zero_add, ne_eq, not_false_eq_true, not_true_eq_false, Nat.not_lt_zero, Nat.add_left_cancel_iff, Nat.add_right_cancel_iff, eq_self, upd_s, pk_sub, nI_pm, Nat.add_sub_cancel, List.length_cons, List.length_nil, Nat.add_eq_zero_iff, Nat.succ_ne_zero, and_false, false_and, l14, l18, l21, l23, l24, l26, l28, l29, l34, l35, l36, l41, l42, l43, l45, l47, l48, l49, l50, l51, l52, l57, l58, l59, l62, l63, l64, l96, l97, l98, l101, l102, l103, l104, l105, l106, l107, l108, l109, l110, l111, l112, l113, l114, l115, l116, l117, l118, l119, l121, l122, l127, l255, l700, l1320, l1000000, h4, q2, h3, show (4 ≤ i) = False from eq_false (by omega), c2, c3]
        by_cases q3 : b (s + i) = (wl 10).getD i 0
        · rw [if_pos ((sg_eq _ c1 _ c4).mpr q3)]
          refine hkk hlt _ ⟨rfl, fun m hm' => ?_⟩
          by_cases e : m = i
          · rw [e]; exact q3
          · exact hm m (by omega)
        · rw [if_neg (fun z => q3 ((sg_eq _ c1 _ c4).mp z)), if_neg (fun z => q3 (z.2.2 i hlt))]
          exact wp_some rfl
      · obtain rfl : i = 4 := by omega
        simp (disch := omega) only [xB_s, xB2_s, xGet_s, xPut_s, xAld_s, xAst_s, xIf_t, xBool_s, l0, l1, l2, l3, l4, l5, l6, l7, l8, l9, l10, l11, l12, l13, l15, l16, l17, l19, l20, l25, l27, l30, l31, l32, l33, l39, l40, l60, l61, l99, l100, l120, l256, l999, l1999, l99999, lm, nI_add, pk_mul, nI_leI, nI_ltI, nI_eq, wuS_1, wuS_2, wuA_1, wuA_21, wuA_22, nI_m1, m1_nI, nIlt_m1, m1lt_nI, Nat.reduceEqDiff, Nat.reduceAdd, Nat.reduceMul, Nat.reduceSub, Nat.reduceLT, Nat.reduceLeDiff, reduceIte, if_true, if_false, Bool.false_eq_true, Nat.add_zero, Nat.zero_add, ne_eq, not_false_eq_true, not_true_eq_false, Nat.not_lt_zero, Nat.add_left_cancel_iff, Nat.add_right_cancel_iff, eq_self, upd_s, pk_sub, nI_pm, Nat.add_sub_cancel, List.length_cons, List.length_nil, Nat.add_eq_zero_iff, Nat.succ_ne_zero, and_false, false_and, l14, l18, l21, l23, l24, l26, l28, l29, l34, l35, l36, l41, l42, l43, l45, l47, l48, l49, l50, l51, l52, l57, l58, l59, l62, l63, l64, l96, l97, l98, l101, l102, l103, l104, l105, l106, l107, l108, l109, l110, l111, l112, l113, l114, l115, l116, l117, l118, l119, l121, l122, l127, l255, l700, l1320, l1000000, h4, q2]
        rw [if_pos ⟨q1, q2, fun m hm' => hm m hm'⟩]
        exact wp_some rfl
    · rw [if_neg q2, if_neg (fun z => q2 z.2.1)]
      exact wp_some rfl
  · rw [if_neg q1, if_neg (fun z => q1 z.1)]
    exact wp_some rfl
theorem x_ch6 : ∀ i, i < 5 → xChr (aChr.getD 6 []) (nI i) = some (nI ((wl 11).getD i 0)) ∧ (wl 11).getD i 0 < 123 := by decide +kernel
theorem x_is11 {b : Nat → Nat} {n s : Nat} {o : wO} {w : wS} (h : TX b n s w) : L_X7_is_S6 o w = some (nI (if wIs b n s (wl 11) then 1 else 0), w) := by
  obtain ⟨⟨b1, b2, b3⟩, hs, h2, h3, h4⟩ := h
  have hz := szT_le (b := b) hs
  have hk := kd_lt (b := b) (n := n) (s := s) (fun i hi => (b3 i hi).1)
  suffices h : wpO (L_X7_is_S6 o w) (fun r => r = (nI (if wIs b n s (wl 11) then 1 else 0), w)) by
    obtain ⟨a, e, rfl⟩ := h; exact e
  unfold L_X7_is_S6 J_X7_is_S6_20
  simp (disch := omega) only [xB_s, xB2_s, xGet_s, xPut_s, xAld_s, xAst_s, xIf_t, xBool_s, l0, l1, l2, l3, l4, l5, l6, l7, l8, l9, l10, l11, l12, l13, l15, l16, l17, l19, l20, l25, l27, l30, l31, l32, l33, l39, l40, l60, l61, l99, l100, l120, l256, l999, l1999, l99999, lm, nI_add, pk_mul, nI_leI, nI_ltI, nI_eq, wuS_1, wuS_2, wuA_1, wuA_21, wuA_22, nI_m1, m1_nI, nIlt_m1, m1lt_nI, Nat.reduceEqDiff, Nat.reduceAdd, Nat.reduceMul, Nat.reduceSub, Nat.reduceLT, Nat.reduceLeDiff, reduceIte, if_true, if_false, Bool.false_eq_true, Nat.add_zero, Nat.zero_add, ne_eq, not_false_eq_true, not_true_eq_false, Nat.not_lt_zero, Nat.add_left_cancel_iff, Nat.add_right_cancel_iff, eq_self, upd_s, pk_sub, nI_pm, Nat.add_sub_cancel, List.length_cons, List.length_nil, Nat.add_eq_zero_iff, Nat.succ_ne_zero, and_false, false_and, l14, l18, l21, l23, l24, l26, l28, l29, l34, l35, l36, l41, l42, l43, l45, l47, l48, l49, l50, l51, l52, l57, l58, l59, l62, l63, l64, l96, l97, l98, l101, l102, l103, l104, l105, l106, l107, l108, l109, l110, l111, l112, l113, l114, l115, l116, l117, l118, l119, l121, l122, l127, l255, l700, l1320, l1000000, h2, h4]
  by_cases q1 : kd b n s = 97
  · rw [if_pos q1]
    by_cases q2 : szT b n s = 5
    · rw [if_pos q2]
      unfold P_X7_is_S6_24
      refine wp_for 5 (fun i σ => σ = (nI i, w) ∧ ∀ m, m < i → b (s + m) = (wl 11).getD m 0) ?_ (Nat.zero_le _) (by omega) ⟨rfl, fun m hm => absurd hm (Nat.not_lt_zero m)⟩
      rintro i _ kk hi ⟨rfl, hm⟩ hkk
      show wpO (B_X7_is_S6_24 o (fun x2 w => kk (x2, w)) _ _ (nI i) w) _
      unfold B_X7_is_S6_24
      by_cases hlt : i < 5
      · obtain ⟨c1, c2⟩ := b3 (s + i) (by omega)
        obtain ⟨c3, c4⟩ := x_ch6 i hlt
        simp (disch := omega) only [xB_s, xB2_s, xGet_s, xPut_s, xAld_s, xAst_s, xIf_t, xBool_s, l0, l1, l2, l3, l4, l5, l6, l7, l8, l9, l10, l11, l12, l13, l15, l16, l17, l19, l20, l25, l27, l30, l31, l32, l33, l39, l40, l60, l61, l99, l100, l120, l256, l999, l1999, l99999, lm, nI_add, pk_mul, nI_leI, nI_ltI, nI_eq, wuS_1, wuS_2, wuA_1, wuA_21, wuA_22, nI_m1, m1_nI, nIlt_m1, m1lt_nI, Nat.reduceEqDiff, Nat.reduceAdd, Nat.reduceMul, Nat.reduceSub, Nat.reduceLT, Nat.reduceLeDiff, reduceIte, if_true, if_false, Bool.false_eq_true, Nat.add_zero, Nat.zero_add, ne_eq, not_false_eq_true, not_true_eq_false, Nat.not_lt_zero, Nat.add_left_cancel_iff, Nat.add_right_cancel_iff, eq_self, upd_s, pk_sub, nI_pm, Nat.add_sub_cancel, List.length_cons, List.length_nil, Nat.add_eq_zero_iff, Nat.succ_ne_zero, and_false, false_and, l14, l18, l21, l23, l24, l26, l28, l29, l34, l35, l36, l41, l42, l43, l45, l47, l48, l49, l50, l51, l52, l57, l58, l59, l62, l63, l64, l96, l97, l98, l101, l102, l103, l104, l105, l106, l107, l108, l109, l110, l111, l112, l113, l114, l115, l116, l117, l118, l119, l121, l122, l127, l255, l700, l1320, l1000000, h4, q2, h3, show (5 ≤ i) = False from eq_false (by omega), c2, c3]
        by_cases q3 : b (s + i) = (wl 11).getD i 0
        · rw [if_pos ((sg_eq _ c1 _ c4).mpr q3)]
          refine hkk hlt _ ⟨rfl, fun m hm' => ?_⟩
          by_cases e : m = i
          · rw [e]; exact q3
          · exact hm m (by omega)
        · rw [if_neg (fun z => q3 ((sg_eq _ c1 _ c4).mp z)), if_neg (fun z => q3 (z.2.2 i hlt))]
          exact wp_some rfl
      · obtain rfl : i = 5 := by omega
        simp (disch := omega) only [xB_s, xB2_s, xGet_s, xPut_s, xAld_s, xAst_s, xIf_t, xBool_s, l0, l1, l2, l3, l4, l5, l6, l7, l8, l9, l10, l11, l12, l13, l15, l16, l17, l19, l20, l25, l27, l30, l31, l32, l33, l39, l40, l60, l61, l99, l100, l120, l256, l999, l1999, l99999, lm, nI_add, pk_mul, nI_leI, nI_ltI, nI_eq, wuS_1, wuS_2, wuA_1, wuA_21, wuA_22, nI_m1, m1_nI, nIlt_m1, m1lt_nI, Nat.reduceEqDiff, Nat.reduceAdd, Nat.reduceMul, Nat.reduceSub, Nat.reduceLT, Nat.reduceLeDiff, reduceIte, if_true, if_false, Bool.false_eq_true, Nat.add_zero, Nat.zero_add, ne_eq, not_false_eq_true, not_true_eq_false, Nat.not_lt_zero, Nat.add_left_cancel_iff, Nat.add_right_cancel_iff, eq_self, upd_s, pk_sub, nI_pm, Nat.add_sub_cancel, List.length_cons, List.length_nil, Nat.add_eq_zero_iff, Nat.succ_ne_zero, and_false, false_and, l14, l18, l21, l23, l24, l26, l28, l29, l34, l35, l36, l41, l42, l43, l45, l47, l48, l49, l50, l51, l52, l57, l58, l59, l62, l63, l64, l96, l97, l98, l101, l102, l103, l104, l105, l106, l107, l108, l109, l110, l111, l112, l113, l114, l115, l116, l117, l118, l119, l121, l122, l127, l255, l700, l1320, l1000000, h4, q2]
        rw [if_pos ⟨q1, q2, fun m hm' => hm m hm'⟩]
        exact wp_some rfl
    · rw [if_neg q2, if_neg (fun z => q2 z.2.1)]
      exact wp_some rfl
  · rw [if_neg q1, if_neg (fun z => q1 z.1)]
    exact wp_some rfl
theorem x_ch16 : ∀ i, i < 5 → xChr (aChr.getD 16 []) (nI i) = some (nI ((wl 12).getD i 0)) ∧ (wl 12).getD i 0 < 123 := by decide +kernel
theorem x_is12 {b : Nat → Nat} {n s : Nat} {o : wO} {w : wS} (h : TX b n s w) : L_X7_is_S16 o w = some (nI (if wIs b n s (wl 12) then 1 else 0), w) := by
  obtain ⟨⟨b1, b2, b3⟩, hs, h2, h3, h4⟩ := h
  have hz := szT_le (b := b) hs
  have hk := kd_lt (b := b) (n := n) (s := s) (fun i hi => (b3 i hi).1)
  suffices h : wpO (L_X7_is_S16 o w) (fun r => r = (nI (if wIs b n s (wl 12) then 1 else 0), w)) by
    obtain ⟨a, e, rfl⟩ := h; exact e
  unfold L_X7_is_S16 J_X7_is_S16_20
  simp (disch := omega) only [xB_s, xB2_s, xGet_s, xPut_s, xAld_s, xAst_s, xIf_t, xBool_s, l0, l1, l2, l3, l4, l5, l6, l7, l8, l9, l10, l11, l12, l13, l15, l16, l17, l19, l20, l25, l27, l30, l31, l32, l33, l39, l40, l60, l61, l99, l100, l120, l256, l999, l1999, l99999, lm, nI_add, pk_mul, nI_leI, nI_ltI, nI_eq, wuS_1, wuS_2, wuA_1, wuA_21, wuA_22, nI_m1, m1_nI, nIlt_m1, m1lt_nI, Nat.reduceEqDiff, Nat.reduceAdd, Nat.reduceMul, Nat.reduceSub, Nat.reduceLT, Nat.reduceLeDiff, reduceIte, if_true, if_false, Bool.false_eq_true, Nat.add_zero, Nat.zero_add, ne_eq, not_false_eq_true, not_true_eq_false, Nat.not_lt_zero, Nat.add_left_cancel_iff, Nat.add_right_cancel_iff, eq_self, upd_s, pk_sub, nI_pm, Nat.add_sub_cancel, List.length_cons, List.length_nil, Nat.add_eq_zero_iff, Nat.succ_ne_zero, and_false, false_and, l14, l18, l21, l23, l24, l26, l28, l29, l34, l35, l36, l41, l42, l43, l45, l47, l48, l49, l50, l51, l52, l57, l58, l59, l62, l63, l64, l96, l97, l98, l101, l102, l103, l104, l105, l106, l107, l108, l109, l110, l111, l112, l113, l114, l115, l116, l117, l118, l119, l121, l122, l127, l255, l700, l1320, l1000000, h2, h4]
  by_cases q1 : kd b n s = 97
  · rw [if_pos q1]
    by_cases q2 : szT b n s = 5
    · rw [if_pos q2]
      unfold P_X7_is_S16_24
      refine wp_for 5 (fun i σ => σ = (nI i, w) ∧ ∀ m, m < i → b (s + m) = (wl 12).getD m 0) ?_ (Nat.zero_le _) (by omega) ⟨rfl, fun m hm => absurd hm (Nat.not_lt_zero m)⟩
      rintro i _ kk hi ⟨rfl, hm⟩ hkk
      show wpO (B_X7_is_S16_24 o (fun x2 w => kk (x2, w)) _ _ (nI i) w) _
      unfold B_X7_is_S16_24
      by_cases hlt : i < 5
      · obtain ⟨c1, c2⟩ := b3 (s + i) (by omega)
        obtain ⟨c3, c4⟩ := x_ch16 i hlt
        simp (disch := omega) only [xB_s, xB2_s, xGet_s, xPut_s, xAld_s, xAst_s, xIf_t, xBool_s, l0, l1, l2, l3, l4, l5, l6, l7, l8, l9, l10, l11, l12, l13, l15, l16, l17, l19, l20, l25, l27, l30, l31, l32, l33, l39, l40, l60, l61, l99, l100, l120, l256, l999, l1999, l99999, lm, nI_add, pk_mul, nI_leI, nI_ltI, nI_eq, wuS_1, wuS_2, wuA_1, wuA_21, wuA_22, nI_m1, m1_nI, nIlt_m1, m1lt_nI, Nat.reduceEqDiff, Nat.reduceAdd, Nat.reduceMul, Nat.reduceSub, Nat.reduceLT, Nat.reduceLeDiff, reduceIte, if_true, if_false, Bool.false_eq_true, Nat.add_zero, Nat.zero_add, ne_eq, not_false_eq_true, not_true_eq_false, Nat.not_lt_zero, Nat.add_left_cancel_iff, Nat.add_right_cancel_iff, eq_self, upd_s, pk_sub, nI_pm, Nat.add_sub_cancel, List.length_cons, List.length_nil, Nat.add_eq_zero_iff, Nat.succ_ne_zero, and_false, false_and, l14, l18, l21, l23, l24, l26, l28, l29, l34, l35, l36, l41, l42, l43, l45, l47, l48, l49, l50, l51, l52, l57, l58, l59, l62, l63, l64, l96, l97, l98, l101, l102, l103, l104, l105, l106, l107, l108, l109, l110, l111, l112, l113, l114, l115, l116, l117, l118, l119, l121, l122, l127, l255, l700, l1320, l1000000, h4, q2, h3, show (5 ≤ i) = False from eq_false (by omega), c2, c3]
        by_cases q3 : b (s + i) = (wl 12).getD i 0
        · rw [if_pos ((sg_eq _ c1 _ c4).mpr q3)]
          refine hkk hlt _ ⟨rfl, fun m hm' => ?_⟩
          by_cases e : m = i
          · rw [e]; exact q3
          · exact hm m (by omega)
        · rw [if_neg (fun z => q3 ((sg_eq _ c1 _ c4).mp z)), if_neg (fun z => q3 (z.2.2 i hlt))]
          exact wp_some rfl
      · obtain rfl : i = 5 := by omega
        simp (disch := omega) only [xB_s, xB2_s, xGet_s, xPut_s, xAld_s, xAst_s, xIf_t, xBool_s, l0, l1, l2, l3, l4, l5, l6, l7, l8, l9, l10, l11, l12, l13, l15, l16, l17, l19, l20, l25, l27, l30, l31, l32, l33, l39, l40, l60, l61, l99, l100, l120, l256, l999, l1999, l99999, lm, nI_add, pk_mul, nI_leI, nI_ltI, nI_eq, wuS_1, wuS_2, wuA_1, wuA_21, wuA_22, nI_m1, m1_nI, nIlt_m1, m1lt_nI, Nat.reduceEqDiff, Nat.reduceAdd, Nat.reduceMul, Nat.reduceSub, Nat.reduceLT, Nat.reduceLeDiff, reduceIte, if_true, if_false, Bool.false_eq_true, Nat.add_zero, Nat.zero_add, ne_eq, not_false_eq_true, not_true_eq_false, Nat.not_lt_zero, Nat.add_left_cancel_iff, Nat.add_right_cancel_iff, eq_self, upd_s, pk_sub, nI_pm, Nat.add_sub_cancel, List.length_cons, List.length_nil, Nat.add_eq_zero_iff, Nat.succ_ne_zero, and_false, false_and, l14, l18, l21, l23, l24, l26, l28, l29, l34, l35, l36, l41, l42, l43, l45, l47, l48, l49, l50, l51, l52, l57, l58, l59, l62, l63, l64, l96, l97, l98, l101, l102, l103, l104, l105, l106, l107, l108, l109, l110, l111, l112, l113, l114, l115, l116, l117, l118, l119, l121, l122, l127, l255, l700, l1320, l1000000, h4, q2]
        rw [if_pos ⟨q1, q2, fun m hm' => hm m hm'⟩]
        exact wp_some rfl
    · rw [if_neg q2, if_neg (fun z => q2 z.2.1)]
      exact wp_some rfl
  · rw [if_neg q1, if_neg (fun z => q1 z.1)]
    exact wp_some rfl
theorem x_ch14 : ∀ i, i < 3 → xChr (aChr.getD 14 []) (nI i) = some (nI ((wl 13).getD i 0)) ∧ (wl 13).getD i 0 < 123 := by decide +kernel
theorem x_is13 {b : Nat → Nat} {n s : Nat} {o : wO} {w : wS} (h : TX b n s w) : L_X7_is_S14 o w = some (nI (if wIs b n s (wl 13) then 1 else 0), w) := by
  obtain ⟨⟨b1, b2, b3⟩, hs, h2, h3, h4⟩ := h
  have hz := szT_le (b := b) hs
  have hk := kd_lt (b := b) (n := n) (s := s) (fun i hi => (b3 i hi).1)
  suffices h : wpO (L_X7_is_S14 o w) (fun r => r = (nI (if wIs b n s (wl 13) then 1 else 0), w)) by
    obtain ⟨a, e, rfl⟩ := h; exact e
  unfold L_X7_is_S14 J_X7_is_S14_20
  simp (disch := omega) only [xB_s, xB2_s, xGet_s, xPut_s, xAld_s, xAst_s, xIf_t, xBool_s, l0, l1, l2, l3, l4, l5, l6, l7, l8, l9, l10, l11, l12, l13, l15, l16, l17, l19, l20, l25, l27, l30, l31, l32, l33, l39, l40, l60, l61, l99, l100, l120, l256, l999, l1999, l99999, lm, nI_add, pk_mul, nI_leI, nI_ltI, nI_eq, wuS_1, wuS_2, wuA_1, wuA_21, wuA_22, nI_m1, m1_nI, nIlt_m1, m1lt_nI, Nat.reduceEqDiff, Nat.reduceAdd, Nat.reduceMul, Nat.reduceSub, Nat.reduceLT, Nat.reduceLeDiff, reduceIte, if_true, if_false, Bool.false_eq_true, Nat.add_zero, Nat.zero_add, ne_eq, not_false_eq_true, not_true_eq_false, Nat.not_lt_zero, Nat.add_left_cancel_iff, Nat.add_right_cancel_iff, eq_self, upd_s, pk_sub, nI_pm, Nat.add_sub_cancel, List.length_cons, List.length_nil, Nat.add_eq_zero_iff, Nat.succ_ne_zero, and_false, false_and, l14, l18, l21, l23, l24, l26, l28, l29, l34, l35, l36, l41, l42, l43, l45, l47, l48, l49, l50, l51, l52, l57, l58, l59, l62, l63, l64, l96, l97, l98, l101, l102, l103, l104, l105, l106, l107, l108, l109, l110, l111, l112, l113, l114, l115, l116, l117, l118, l119, l121, l122, l127, l255, l700, l1320, l1000000, h2, h4]
  by_cases q1 : kd b n s = 97
  · rw [if_pos q1]
    by_cases q2 : szT b n s = 3
    · rw [if_pos q2]
      unfold P_X7_is_S14_24
      refine wp_for 3 (fun i σ => σ = (nI i, w) ∧ ∀ m, m < i → b (s + m) = (wl 13).getD m 0) ?_ (Nat.zero_le _) (by omega) ⟨rfl, fun m hm => absurd hm (Nat.not_lt_zero m)⟩
      rintro i _ kk hi ⟨rfl, hm⟩ hkk
      show wpO (B_X7_is_S14_24 o (fun x2 w => kk (x2, w)) _ _ (nI i) w) _
      unfold B_X7_is_S14_24
      by_cases hlt : i < 3
      · obtain ⟨c1, c2⟩ := b3 (s + i) (by omega)
        obtain ⟨c3, c4⟩ := x_ch14 i hlt
        simp (disch := omega) only [xB_s, xB2_s, xGet_s, xPut_s, xAld_s, xAst_s, xIf_t, xBool_s, l0, l1, l2, l3, l4, l5, l6, l7, l8, l9, l10, l11, l12, l13, l15, l16, l17, l19, l20, l25, l27, l30, l31, l32, l33, l39, l40, l60, l61, l99, l100, l120, l256, l999, l1999, l99999, lm, nI_add, pk_mul, nI_leI, nI_ltI, nI_eq, wuS_1, wuS_2, wuA_1, wuA_21, wuA_22, nI_m1, m1_nI, nIlt_m1, m1lt_nI, Nat.reduceEqDiff, Nat.reduceAdd, Nat.reduceMul, Nat.reduceSub, Nat.reduceLT, Nat.reduceLeDiff, reduceIte, if_true, if_false, Bool.false_eq_true, Nat.add_zero, Nat.zero_add, ne_eq, not_false_eq_true, not_true_eq_false, Nat.not_lt_zero, Nat.add_left_cancel_iff, Nat.add_right_cancel_iff, eq_self, upd_s, pk_sub, nI_pm, Nat.add_sub_cancel, List.length_cons, List.length_nil, Nat.add_eq_zero_iff, Nat.succ_ne_zero, and_false, false_and, l14, l18, l21, l23, l24, l26, l28, l29, l34, l35, l36, l41, l42, l43, l45, l47, l48, l49, l50, l51, l52, l57, l58, l59, l62, l63, l64, l96, l97, l98, l101, l102, l103, l104, l105, l106, l107, l108, l109, l110, l111, l112, l113, l114, l115, l116, l117, l118, l119, l121, l122, l127, l255, l700, l1320, l1000000, h4, q2, h3, show (3 ≤ i) = False from eq_false (by omega), c2, c3]
        by_cases q3 : b (s + i) = (wl 13).getD i 0
        · rw [if_pos ((sg_eq _ c1 _ c4).mpr q3)]
          refine hkk hlt _ ⟨rfl, fun m hm' => ?_⟩
          by_cases e : m = i
          · rw [e]; exact q3
          · exact hm m (by omega)
        · rw [if_neg (fun z => q3 ((sg_eq _ c1 _ c4).mp z)), if_neg (fun z => q3 (z.2.2 i hlt))]
          exact wp_some rfl
      · obtain rfl : i = 3 := by omega
        simp (disch := omega) only [xB_s, xB2_s, xGet_s, xPut_s, xAld_s, xAst_s, xIf_t, xBool_s, l0, l1, l2, l3, l4, l5, l6, l7, l8, l9, l10, l11, l12, l13, l15, l16, l17, l19, l20, l25, l27, l30, l31, l32, l33, l39, l40, l60, l61, l99, l100, l120, l256, l999, l1999, l99999, lm, nI_add, pk_mul, nI_leI, nI_ltI, nI_eq, wuS_1, wuS_2, wuA_1, wuA_21, wuA_22, nI_m1, m1_nI, nIlt_m1, m1lt_nI, Nat.reduceEqDiff, Nat.reduceAdd, Nat.reduceMul, Nat.reduceSub, Nat.reduceLT, Nat.reduceLeDiff, reduceIte, if_true, if_false, Bool.false_eq_true, Nat.add_zero, Nat.zero_add, ne_eq, not_false_eq_true, not_true_eq_false, Nat.not_lt_zero, Nat.add_left_cancel_iff, Nat.add_right_cancel_iff, eq_self, upd_s, pk_sub, nI_pm, Nat.add_sub_cancel, List.length_cons, List.length_nil, Nat.add_eq_zero_iff, Nat.succ_ne_zero, and_false, false_and, l14, l18, l21, l23, l24, l26, l28, l29, l34, l35, l36, l41, l42, l43, l45, l47, l48, l49, l50, l51, l52, l57, l58, l59, l62, l63, l64, l96, l97, l98, l101, l102, l103, l104, l105, l106, l107, l108, l109, l110, l111, l112, l113, l114, l115, l116, l117, l118, l119, l121, l122, l127, l255, l700, l1320, l1000000, h4, q2]
        rw [if_pos ⟨q1, q2, fun m hm' => hm m hm'⟩]
        exact wp_some rfl
    · rw [if_neg q2, if_neg (fun z => q2 z.2.1)]
      exact wp_some rfl
  · rw [if_neg q1, if_neg (fun z => q1 z.1)]
    exact wp_some rfl
theorem x_ch15 : ∀ i, i < 2 → xChr (aChr.getD 15 []) (nI i) = some (nI ((wl 14).getD i 0)) ∧ (wl 14).getD i 0 < 123 := by decide +kernel
theorem x_is14 {b : Nat → Nat} {n s : Nat} {o : wO} {w : wS} (h : TX b n s w) : L_X7_is_S15 o w = some (nI (if wIs b n s (wl 14) then 1 else 0), w) := by
  obtain ⟨⟨b1, b2, b3⟩, hs, h2, h3, h4⟩ := h
  have hz := szT_le (b := b) hs
  have hk := kd_lt (b := b) (n := n) (s := s) (fun i hi => (b3 i hi).1)
  suffices h : wpO (L_X7_is_S15 o w) (fun r => r = (nI (if wIs b n s (wl 14) then 1 else 0), w)) by
    obtain ⟨a, e, rfl⟩ := h; exact e
  unfold L_X7_is_S15 J_X7_is_S15_20
  simp (disch := omega) only [xB_s, xB2_s, xGet_s, xPut_s, xAld_s, xAst_s, xIf_t, xBool_s, l0, l1, l2, l3, l4, l5, l6, l7, l8, l9, l10, l11, l12, l13, l15, l16, l17, l19, l20, l25, l27, l30, l31, l32, l33, l39, l40, l60, l61, l99, l100, l120, l256, l999, l1999, l99999, lm, nI_add, pk_mul, nI_leI, nI_ltI, nI_eq, wuS_1, wuS_2, wuA_1, wuA_21, wuA_22, nI_m1, m1_nI, nIlt_m1, m1lt_nI, Nat.reduceEqDiff, Nat.reduceAdd, Nat.reduceMul, Nat.reduceSub, Nat.reduceLT, Nat.reduceLeDiff, reduceIte, if_true, if_false, Bool.false_eq_true, Nat.add_zero, Nat.zero_add, ne_eq, not_false_eq_true, not_true_eq_false, Nat.not_lt_zero, Nat.add_left_cancel_iff, Nat.add_right_cancel_iff, eq_self, upd_s, pk_sub, nI_pm, Nat.add_sub_cancel, List.length_cons, List.length_nil, Nat.add_eq_zero_iff, Nat.succ_ne_zero, and_false, false_and, l14, l18, l21, l23, l24, l26, l28, l29, l34, l35, l36, l41, l42, l43, l45, l47, l48, l49, l50, l51, l52, l57, l58, l59, l62, l63, l64, l96, l97, l98, l101, l102, l103, l104, l105, l106, l107, l108, l109, l110, l111, l112, l113, l114, l115, l116, l117, l118, l119, l121, l122, l127, l255, l700, l1320, l1000000, h2, h4]
  by_cases q1 : kd b n s = 97
  · rw [if_pos q1]
    by_cases q2 : szT b n s = 2
    · rw [if_pos q2]
      unfold P_X7_is_S15_24
      refine wp_for 2 (fun i σ => σ = (nI i, w) ∧ ∀ m, m < i → b (s + m) = (wl 14).getD m 0) ?_ (Nat.zero_le _) (by omega) ⟨rfl, fun m hm => absurd hm (Nat.not_lt_zero m)⟩
      rintro i _ kk hi ⟨rfl, hm⟩ hkk
      show wpO (B_X7_is_S15_24 o (fun x2 w => kk (x2, w)) _ _ (nI i) w) _
      unfold B_X7_is_S15_24
      by_cases hlt : i < 2
      · obtain ⟨c1, c2⟩ := b3 (s + i) (by omega)
        obtain ⟨c3, c4⟩ := x_ch15 i hlt
        simp (disch := omega) only [xB_s, xB2_s, xGet_s, xPut_s, xAld_s, xAst_s, xIf_t, xBool_s, l0, l1, l2, l3, l4, l5, l6, l7, l8, l9, l10, l11, l12, l13, l15, l16, l17, l19, l20, l25, l27, l30, l31, l32, l33, l39, l40, l60, l61, l99, l100, l120, l256, l999, l1999, l99999, lm, nI_add, pk_mul, nI_leI, nI_ltI, nI_eq, wuS_1, wuS_2, wuA_1, wuA_21, wuA_22, nI_m1, m1_nI, nIlt_m1, m1lt_nI, Nat.reduceEqDiff, Nat.reduceAdd, Nat.reduceMul, Nat.reduceSub, Nat.reduceLT, Nat.reduceLeDiff, reduceIte, if_true, if_false, Bool.false_eq_true, Nat.add_zero, Nat.zero_add, ne_eq, not_false_eq_true, not_true_eq_false, Nat.not_lt_zero, Nat.add_left_cancel_iff, Nat.add_right_cancel_iff, eq_self, upd_s, pk_sub, nI_pm, Nat.add_sub_cancel, List.length_cons, List.length_nil, Nat.add_eq_zero_iff, Nat.succ_ne_zero, and_false, false_and, l14, l18, l21, l23, l24, l26, l28, l29, l34, l35, l36, l41, l42, l43, l45, l47, l48, l49, l50, l51, l52, l57, l58, l59, l62, l63, l64, l96, l97, l98, l101, l102, l103, l104, l105, l106, l107, l108, l109, l110, l111, l112, l113, l114, l115, l116, l117, l118, l119, l121, l122, l127, l255, l700, l1320, l1000000, h4, q2, h3, show (2 ≤ i) = False from eq_false (by omega), c2, c3]
        by_cases q3 : b (s + i) = (wl 14).getD i 0
        · rw [if_pos ((sg_eq _ c1 _ c4).mpr q3)]
          refine hkk hlt _ ⟨rfl, fun m hm' => ?_⟩
          by_cases e : m = i
          · rw [e]; exact q3
          · exact hm m (by omega)
        · rw [if_neg (fun z => q3 ((sg_eq _ c1 _ c4).mp z)), if_neg (fun z => q3 (z.2.2 i hlt))]
          exact wp_some rfl
      · obtain rfl : i = 2 := by omega
        simp (disch := omega) only [xB_s, xB2_s, xGet_s, xPut_s, xAld_s, xAst_s, xIf_t, xBool_s, l0, l1, l2, l3, l4, l5, l6, l7, l8, l9, l10, l11, l12, l13, l15, l16, l17, l19, l20, l25, l27, l30, l31, l32, l33, l39, l40, l60, l61, l99, l100, l120, l256, l999, l1999, l99999, lm, nI_add, pk_mul, nI_leI, nI_ltI, nI_eq, wuS_1, wuS_2, wuA_1, wuA_21, wuA_22, nI_m1, m1_nI, nIlt_m1, m1lt_nI, Nat.reduceEqDiff, Nat.reduceAdd, Nat.reduceMul, Nat.reduceSub, Nat.reduceLT, Nat.reduceLeDiff, reduceIte, if_true, if_false, Bool.false_eq_true, Nat.add_zero, Nat.zero_add, ne_eq, not_false_eq_true, not_true_eq_false, Nat.not_lt_zero, Nat.add_left_cancel_iff, Nat.add_right_cancel_iff, eq_self, upd_s, pk_sub, nI_pm, Nat.add_sub_cancel, List.length_cons, List.length_nil, Nat.add_eq_zero_iff, Nat.succ_ne_zero, and_false, false_and, l14, l18, l21, l23, l24, l26, l28, l29, l34, l35, l36, l41, l42, l43, l45, l47, l48, l49, l50, l51, l52, l57, l58, l59, l62, l63, l64, l96, l97, l98, l101, l102, l103, l104, l105, l106, l107, l108, l109, l110, l111, l112, l113, l114, l115, l116, l117, l118, l119, l121, l122, l127, l255, l700, l1320, l1000000, h4, q2]
        rw [if_pos ⟨q1, q2, fun m hm' => hm m hm'⟩]
        exact wp_some rfl
    · rw [if_neg q2, if_neg (fun z => q2 z.2.1)]
      exact wp_some rfl
  · rw [if_neg q1, if_neg (fun z => q1 z.1)]
    exact wp_some rfl
theorem x_ch7 : ∀ i, i < 3 → xChr (aChr.getD 7 []) (nI i) = some (nI ((wl 15).getD i 0)) ∧ (wl 15).getD i 0 < 123 := by decide +kernel
theorem x_is15 {b : Nat → Nat} {n s : Nat} {o : wO} {w : wS} (h : TX b n s w) : L_X7_is_S7 o w = some (nI (if wIs b n s (wl 15) then 1 else 0), w) := by
  obtain ⟨⟨b1, b2, b3⟩, hs, h2, h3, h4⟩ := h
  have hz := szT_le (b := b) hs
  have hk := kd_lt (b := b) (n := n) (s := s) (fun i hi => (b3 i hi).1)
  suffices h : wpO (L_X7_is_S7 o w) (fun r => r = (nI (if wIs b n s (wl 15) then 1 else 0), w)) by
    obtain ⟨a, e, rfl⟩ := h; exact e
  unfold L_X7_is_S7 J_X7_is_S7_20
  simp (disch := omega) only [xB_s, xB2_s, xGet_s, xPut_s, xAld_s, xAst_s, xIf_t, xBool_s, l0, l1, l2, l3, l4, l5, l6, l7, l8, l9, l10, l11, l12, l13, l15, l16, l17, l19, l20, l25, l27, l30, l31, l32, l33, l39, l40, l60, l61, l99, l100, l120, l256, l999, l1999, l99999, lm, nI_add, pk_mul, nI_leI, nI_ltI, nI_eq, wuS_1, wuS_2, wuA_1, wuA_21, wuA_22, nI_m1, m1_nI, nIlt_m1, m1lt_nI, Nat.reduceEqDiff, Nat.reduceAdd, Nat.reduceMul, Nat.reduceSub, Nat.reduceLT, Nat.reduceLeDiff, reduceIte, if_true, if_false, Bool.false_eq_true, Nat.add_zero, Nat.zero_add, ne_eq, not_false_eq_true, not_true_eq_false, Nat.not_lt_zero, Nat.add_left_cancel_iff, Nat.add_right_cancel_iff, eq_self, upd_s, pk_sub, nI_pm, Nat.add_sub_cancel, List.length_cons, List.length_nil, Nat.add_eq_zero_iff, Nat.succ_ne_zero, and_false, false_and, l14, l18, l21, l23, l24, l26, l28, l29, l34, l35, l36, l41, l42, l43, l45, l47, l48, l49, l50, l51, l52, l57, l58, l59, l62, l63, l64, l96, l97, l98, l101, l102, l103, l104, l105, l106, l107, l108, l109, l110, l111, l112, l113, l114, l115, l116, l117, l118, l119, l121, l122, l127, l255, l700, l1320, l1000000, h2, h4]
  by_cases q1 : kd b n s = 97
  · rw [if_pos q1]
    by_cases q2 : szT b n s = 3
    · rw [if_pos q2]
      unfold P_X7_is_S7_24
      refine wp_for 3 (fun i σ => σ = (nI i, w) ∧ ∀ m, m < i → b (s + m) = (wl 15).getD m 0) ?_ (Nat.zero_le _) (by omega) ⟨rfl, fun m hm => absurd hm (Nat.not_lt_zero m)⟩
      rintro i _ kk hi ⟨rfl, hm⟩ hkk
      show wpO (B_X7_is_S7_24 o (fun x2 w => kk (x2, w)) _ _ (nI i) w) _
      unfold B_X7_is_S7_24
      by_cases hlt : i < 3
      · obtain ⟨c1, c2⟩ := b3 (s + i) (by omega)
        obtain ⟨c3, c4⟩ := x_ch7 i hlt
        simp (disch := omega) only [xB_s, xB2_s, xGet_s, xPut_s, xAld_s, xAst_s, xIf_t, xBool_s, l0, l1, l2, l3, l4, l5, l6, l7, l8, l9, l10, l11, l12, l13, l15, l16, l17, l19, l20, l25, l27, l30, l31, l32, l33, l39, l40, l60, l61, l99, l100, l120, l256, l999, l1999, l99999, lm, nI_add, pk_mul, nI_leI, nI_ltI, nI_eq, wuS_1, wuS_2, wuA_1, wuA_21, wuA_22, nI_m1, m1_nI, nIlt_m1, m1lt_nI, Nat.reduceEqDiff, Nat.reduceAdd, Nat.reduceMul, Nat.reduceSub, Nat.reduceLT, Nat.reduceLeDiff, reduceIte, if_true, if_false, Bool.false_eq_true, Nat.add_zero, Nat.zero_add, ne_eq, not_false_eq_true, not_true_eq_false, Nat.not_lt_zero, Nat.add_left_cancel_iff, Nat.add_right_cancel_iff, eq_self, upd_s, pk_sub, nI_pm, Nat.add_sub_cancel, List.length_cons, List.length_nil, Nat.add_eq_zero_iff, Nat.succ_ne_zero, and_false, false_and, l14, l18, l21, l23, l24, l26, l28, l29, l34, l35, l36, l41, l42, l43, l45, l47, l48, l49, l50, l51, l52, l57, l58, l59, l62, l63, l64, l96, l97, l98, l101, l102, l103, l104, l105, l106, l107, l108, l109, l110, l111, l112, l113, l114, l115, l116, l117, l118, l119, l121, l122, l127, l255, l700, l1320, l1000000, h4, q2, h3, show (3 ≤ i) = False from eq_false (by omega), c2, c3]
        by_cases q3 : b (s + i) = (wl 15).getD i 0
        · rw [if_pos ((sg_eq _ c1 _ c4).mpr q3)]
          refine hkk hlt _ ⟨rfl, fun m hm' => ?_⟩
          by_cases e : m = i
          · rw [e]; exact q3
          · exact hm m (by omega)
        · rw [if_neg (fun z => q3 ((sg_eq _ c1 _ c4).mp z)), if_neg (fun z => q3 (z.2.2 i hlt))]
          exact wp_some rfl
      · obtain rfl : i = 3 := by omega
        simp (disch := omega) only [xB_s, xB2_s, xGet_s, xPut_s, xAld_s, xAst_s, xIf_t, xBool_s, l0, l1, l2, l3, l4, l5, l6, l7, l8, l9, l10, l11, l12, l13, l15, l16, l17, l19, l20, l25, l27, l30, l31, l32, l33, l39, l40, l60, l61, l99, l100, l120, l256, l999, l1999, l99999, lm, nI_add, pk_mul, nI_leI, nI_ltI, nI_eq, wuS_1, wuS_2, wuA_1, wuA_21, wuA_22, nI_m1, m1_nI, nIlt_m1, m1lt_nI, Nat.reduceEqDiff, Nat.reduceAdd, Nat.reduceMul, Nat.reduceSub, Nat.reduceLT, Nat.reduceLeDiff, reduceIte, if_true, if_false, Bool.false_eq_true, Nat.add_zero, Nat.zero_add, ne_eq, not_false_eq_true, not_true_eq_false, Nat.not_lt_zero, Nat.add_left_cancel_iff, Nat.add_right_cancel_iff, eq_self, upd_s, pk_sub, nI_pm, Nat.add_sub_cancel, List.length_cons, List.length_nil, Nat.add_eq_zero_iff, Nat.succ_ne_zero, and_false, false_and, l14, l18, l21, l23, l24, l26, l28, l29, l34, l35, l36, l41, l42, l43, l45, l47, l48, l49, l50, l51, l52, l57, l58, l59, l62, l63, l64, l96, l97, l98, l101, l102, l103, l104, l105, l106, l107, l108, l109, l110, l111, l112, l113, l114, l115, l116, l117, l118, l119, l121, l122, l127, l255, l700, l1320, l1000000, h4, q2]
        rw [if_pos ⟨q1, q2, fun m hm' => hm m hm'⟩]
        exact wp_some rfl
    · rw [if_neg q2, if_neg (fun z => q2 z.2.1)]
      exact wp_some rfl
  · rw [if_neg q1, if_neg (fun z => q1 z.1)]
    exact wp_some rfl
end
