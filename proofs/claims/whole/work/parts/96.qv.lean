section
theorem R2.iffX {α β : Type} {ox : Option α} {om : Option β} {Q : α → β → Prop} : R2 ox om Q ↔ wpO ox (fun a => ∃ b, om = Option.some b ∧ Q a b) := by
  constructor
  · rintro ⟨a, b, e1, e2, h⟩; exact ⟨a, e1, b, e2, h⟩
  · rintro ⟨a, e1, b, e2, h⟩; exact ⟨a, b, e1, e2, h⟩
theorem hb_pc {w : wS} {d : Nat} : pcL (w.2.2.2.1 52 (2 * d)) + pcL (w.2.2.2.1 52 (2 * d + 1)) = cN (hb w d) 128 := by
  have e1 : pcL (w.2.2.2.1 52 (2 * d)) = cN (hb w d) 64 := cN_cong (fun k hk => by
    show _ = (t6 (w.2.2.2.1 52 (2 * d + k / 64))).testBit (k % 64)
    rw [show k / 64 = 0 by omega, show k % 64 = k by omega, Nat.add_zero])
  have e2 : pcL (w.2.2.2.1 52 (2 * d + 1)) = cN (fun i => hb w d (64 + i)) 64 := cN_cong (fun k hk => by
    show _ = (t6 (w.2.2.2.1 52 (2 * d + (64 + k) / 64))).testBit ((64 + k) % 64)
    rw [show (64 + k) / 64 = 1 by omega, show (64 + k) % 64 = k by omega])
  rw [e1, e2, ← cN_split]
/-- how many unlike ones among the first n, as the reference counts them -/
theorem m_new {w : wS} {x1 x3 x4 x6 : Int32} {n d a : Nat} {v : Nat → Nat} {ke : Int32 → Int32 → Int32 → Int32 → Int32 → Int32 → Int32 → Int32 → wS → Option (Int32 × wS)} {Q : Int32 × wS → Prop} (hn : n ≤ 488) (hd : d < 6) (ha : a < n) (hv : ∀ j, j < n → w.2.1 27 (6 * j + d) = nI (v j)) (hle : ∀ j, j < n → v j ≤ 120) (hk : wpO (ke x1 (nI n) x3 x4 (nI d) x6 (nI a) (nI (nwB v a a).toNat) w) Q) : wpO (P_X10_next_123 ke 5000 x1 (nI n) x3 x4 (nI d) x6 (nI a) (nI 1) (nI 0) w) Q := by
  unfold P_X10_next_123
  refine wp_for a (fun b σ => σ = (x1, nI n, x3, x4, nI d, x6, nI a, nI (nwB v a b).toNat, nI b, w)) ?_ (Nat.zero_le _) (by omega) rfl
  rintro b _ kk hi rfl hkk
  show wpO (B_X10_next_123 (fun x1 x2 x3 x4 x5 x6 x7 x8 x9 w => kk (x1, x2, x3, x4, x5, x6, x7, x8, x9, w)) _ x1 (nI n) x3 x4 (nI d) x6 (nI a) (nI (nwB v a b).toNat) (nI b) w) _
  unfold B_X10_next_123 J_X10_next_169
  by_cases hlt : b < a
  · have l1' := hle a ha
    have l2' := hle b (by omega)
    simp (disch := omega) only [xB_s, xB2_s, xGet_s, xPut_s, xAld_s, xAst_s, xIf_t, xBool_s, l0, l1, l2, l3, l4, l5, l6, l7, l8, l9, l10, l11, l12, l13, l15, l16, l17, l19, l20, l25, l27, l30, l31, l32, l33, l39, l40, l60, l61, l99, l100, l120, l256, l999, l1999, l99999, lm, nI_add, pk_mul, nI_leI, nI_ltI, nI_eq, wuS_1, wuS_2, wuA_1, wuA_21, wuA_22, nI_m1, m1_nI, nIlt_m1, m1lt_nI, Nat.reduceEqDiff, Nat.reduceAdd, Nat.reduceMul, Nat.reduceSub, Nat.reduceLT, Nat.reduceLeDiff, reduceIte, if_true, if_false, Bool.false_eq_true, Nat.add_zero, Nat.zero_add, ne_eq, not_false_eq_true, not_true_eq_false, Nat.not_lt_zero, Nat.add_left_cancel_iff, Nat.add_right_cancel_iff, eq_self, upd_s, pk_sub, nI_pm, Nat.add_sub_cancel, List.length_cons, List.length_nil, Nat.add_eq_zero_iff, Nat.succ_ne_zero, and_false, false_and, l14, l18, l21, l23, l24, l26, l28, l29, l34, l35, l36, l41, l42, l43, l45, l47, l48, l49, l50, l51, l52, l57, l58, l59, l62, l63, l64, l96, l97, l98, l101, l102, l103, l104, l105, l106, l107, l108, l109, l110, l111, l112, l113, l114, l115, l116, l117, l118, l119, l121, l122, l127, l255, l700, l1320, l1000000, show (a ≤ b) = False from eq_false (by omega), hv a ha, hv b (Nat.lt_trans hlt ha)]
    cases hb : nwB v a b with
    | false =>
      have : nwB v a a = false := by
        have : ∀ m, nwB v a (b + m) = false := fun m => by
          induction m with
          | zero => exact hb
          | succ m ih =>
            show (nwB v a (b + m) && _) = false
            rw [ih]; rfl
        have := this (a - b)
        rw [show b + (a - b) = a by omega] at this
        exact this
      rw [this] at hk
      simp (disch := omega) only [xB_s, xB2_s, xGet_s, xPut_s, xAld_s, xAst_s, xIf_t, xBool_s, l0, l1, l2, l3, l4, l5, l6, l7, l8, l9, l10, l11, l12, l13, l15, l16, l17, l19, l20, l25, l27, l30, l31, l32, l33, l39, l40, l60, l61, l99, l100, l120, l256, l999, l1999, l99999, lm, nI_add, pk_mul, nI_leI, nI_ltI, nI_eq, wuS_1, wuS_2, wuA_1, wuA_21, wuA_22, nI_m1, m1_nI, nIlt_m1, m1lt_nI, Nat.reduceEqDiff, Nat.reduceAdd, Nat.reduceMul, Nat.reduceSub, Nat.reduceLT, Nat.reduceLeDiff, reduceIte, if_true, if_false, Bool.false_eq_true, Nat.add_zero, Nat.zero_add, ne_eq, not_false_eq_true, not_true_eq_false, Nat.not_lt_zero, Nat.add_left_cancel_iff, Nat.add_right_cancel_iff, eq_self, upd_s, pk_sub, nI_pm, Nat.add_sub_cancel, List.length_cons, List.length_nil, Nat.add_eq_zero_iff, Nat.succ_ne_zero, and_false, false_and, l14, l18, l21, l23, l24, l26, l28, l29, l34, l35, l36, l41, l42, l43, l45, l47, l48, l49, l50, l51, l52, l57, l58, l59, l62, l63, l64, l96, l97, l98, l101, l102, l103, l104, l105, l106, l107, l108, l109, l110, l111, l112, l113, l114, l115, l116, l117, l118, l119, l121, l122, l127, l255, l700, l1320, l1000000, Bool.toNat_false]
      exact hk
    | true =>
      simp (disch := omega) only [xB_s, xB2_s, xGet_s, xPut_s, xAld_s, xAst_s, xIf_t, xBool_s, l0, l1, l2, l3, l4, l5, l6, l7, l8, l9, l10, l11, l12, l13, l15, l16, l17, l19, l20, l25, l27, l30, l31, l32, l33, l39, l40, l60, l61, l99, l100, l120, l256, l999, l1999, l99999, lm, nI_add, pk_mul, nI_leI, nI_ltI, nI_eq, wuS_1, wuS_2, wuA_1, wuA_21, wuA_22, nI_m1, m1_nI, nIlt_m1, m1lt_nI, Nat.reduceEqDiff, Nat.reduceAdd, Nat.reduceMul, Nat.reduceSub, Nat.reduceLT, Nat.reduceLeDiff, reduceIte, if_true, if_false, Bool.false_eq_true, Nat.add_zero, Nat.zero_add, ne_eq, not_false_eq_true, not_true_eq_false, Nat.not_lt_zero, Nat.add_left_cancel_iff, Nat.add_right_cancel_iff, eq_self, upd_s, pk_sub, nI_pm, Nat.add_sub_cancel, List.length_cons, List.length_nil, Nat.add_eq_zero_iff, Nat.succ_ne_zero, and_false, false_and, l14, l18, l21, l23, l24, l26, l28, l29, l34, l35, l36, l41, l42, l43, l45, l47, l48, l49, l50, l51, l52, l57, l58, l59, l62, l63, l64, l96, l97, l98, l101, l102, l103, l104, l105, l106, l107, l108, l109, l110, l111, l112, l113, l114, l115, l116, l117, l118, l119, l121, l122, l127, l255, l700, l1320, l1000000, Bool.toNat_true]
      by_cases e : v a = v b
      · rw [if_pos e]
        refine hkk hlt _ ?_
        show _ = (x1, nI n, x3, x4, nI d, x6, nI a, nI (nwB v a b && decide (v a ≠ v b)).toNat, nI (b + 1), w)
        rw [decide_eq_false (fun z => z e), Bool.and_false]; rfl
      · rw [if_neg e]
        refine hkk hlt _ ?_
        show _ = (x1, nI n, x3, x4, nI d, x6, nI a, nI (nwB v a b && decide (v a ≠ v b)).toNat, nI (b + 1), w)
        rw [decide_eq_true e, hb]; rfl
  · obtain rfl : b = a := by omega
    simp (disch := omega) only [xB_s, xB2_s, xGet_s, xPut_s, xAld_s, xAst_s, xIf_t, xBool_s, l0, l1, l2, l3, l4, l5, l6, l7, l8, l9, l10, l11, l12, l13, l15, l16, l17, l19, l20, l25, l27, l30, l31, l32, l33, l39, l40, l60, l61, l99, l100, l120, l256, l999, l1999, l99999, lm, nI_add, pk_mul, nI_leI, nI_ltI, nI_eq, wuS_1, wuS_2, wuA_1, wuA_21, wuA_22, nI_m1, m1_nI, nIlt_m1, m1lt_nI, Nat.reduceEqDiff, Nat.reduceAdd, Nat.reduceMul, Nat.reduceSub, Nat.reduceLT, Nat.reduceLeDiff, reduceIte, if_true, if_false, Bool.false_eq_true, Nat.add_zero, Nat.zero_add, ne_eq, not_false_eq_true, not_true_eq_false, Nat.not_lt_zero, Nat.add_left_cancel_iff, Nat.add_right_cancel_iff, eq_self, upd_s, pk_sub, nI_pm, Nat.add_sub_cancel, List.length_cons, List.length_nil, Nat.add_eq_zero_iff, Nat.succ_ne_zero, and_false, false_and, l14, l18, l21, l23, l24, l26, l28, l29, l34, l35, l36, l41, l42, l43, l45, l47, l48, l49, l50, l51, l52, l57, l58, l59, l62, l63, l64, l96, l97, l98, l101, l102, l103, l104, l105, l106, l107, l108, l109, l110, l111, l112, l113, l114, l115, l116, l117, l118, l119, l121, l122, l127, l255, l700, l1320, l1000000, Nat.le_refl]
    exact hk
theorem m_unlike {w : wS} {x1 x3 x4 : Int32} {n d : Nat} {v : Nat → Nat} {ke : Int32 → Int32 → Int32 → Int32 → Int32 → Int32 → wS → Option (Int32 × wS)} {Q : Int32 × wS → Prop} (hn : n ≤ 488) (hd : d < 6) (hv : ∀ j, j < n → w.2.1 27 (6 * j + d) = nI (v j)) (hle : ∀ j, j < n → v j ≤ 120) (hk : wpO (ke x1 (nI n) x3 x4 (nI d) (nI (cN (fun a => nwB v a a) n)) w) Q) : wpO (P_X10_next_111 ke 5000 x1 (nI n) x3 x4 (nI d) (nI 0) (nI 0) w) Q := by
  unfold P_X10_next_111
  refine wp_for n (fun a σ => σ = (x1, nI n, x3, x4, nI d, nI (cN (fun a => nwB v a a) a), nI a, w)) ?_ (Nat.zero_le _) (by omega) rfl
  rintro a _ kk hi rfl hkk
  show wpO (B_X10_next_111 (fun x1 x2 x3 x4 x5 x6 x7 w => kk (x1, x2, x3, x4, x5, x6, x7, w)) _ x1 (nI n) x3 x4 (nI d) (nI (cN (fun a => nwB v a a) a)) (nI a) w) _
  unfold B_X10_next_111
  by_cases hlt : a < n
  · simp (disch := omega) only [xB_s, xB2_s, xGet_s, xPut_s, xAld_s, xAst_s, xIf_t, xBool_s, l0, l1, l2, l3, l4, l5, l6, l7, l8, l9, l10, l11, l12, l13, l15, l16, l17, l19, l20, l25, l27, l30, l31, l32, l33, l39, l40, l60, l61, l99, l100, l120, l256, l999, l1999, l99999, lm, nI_add, pk_mul, nI_leI, nI_ltI, nI_eq, wuS_1, wuS_2, wuA_1, wuA_21, wuA_22, nI_m1, m1_nI, nIlt_m1, m1lt_nI, Nat.reduceEqDiff, Nat.reduceAdd, Nat.reduceMul, Nat.reduceSub, Nat.reduceLT, Nat.reduceLeDiff, reduceIte, if_true, if_false, Bool.false_eq_true, Nat.add_zero, Nat.zero_add, ne_eq, not_false_eq_true, not_true_eq_false, Nat.not_lt_zero, Nat.add_left_cancel_iff, Nat.add_right_cancel_iff, eq_self, upd_s, pk_sub, nI_pm, Nat.add_sub_cancel, List.length_cons, List.length_nil, Nat.add_eq_zero_iff, Nat.succ_ne_zero, and_false, false_and, l14, l18, l21, l23, l24, l26, l28, l29, l34, l35, l36, l41, l42, l43, l45, l47, l48, l49, l50, l51, l52, l57, l58, l59, l62, l63, l64, l96, l97, l98, l101, l102, l103, l104, l105, l106, l107, l108, l109, l110, l111, l112, l113, l114, l115, l116, l117, l118, l119, l121, l122, l127, l255, l700, l1320, l1000000, show (n ≤ a) = False from eq_false (by omega)]
    refine m_new hn hd hlt hv hle ?_
    unfold J_X10_next_177 J_X10_next_189
    cases hb : nwB v a a with
    | false =>
      simp (disch := omega) only [xB_s, xB2_s, xGet_s, xPut_s, xAld_s, xAst_s, xIf_t, xBool_s, l0, l1, l2, l3, l4, l5, l6, l7, l8, l9, l10, l11, l12, l13, l15, l16, l17, l19, l20, l25, l27, l30, l31, l32, l33, l39, l40, l60, l61, l99, l100, l120, l256, l999, l1999, l99999, lm, nI_add, pk_mul, nI_leI, nI_ltI, nI_eq, wuS_1, wuS_2, wuA_1, wuA_21, wuA_22, nI_m1, m1_nI, nIlt_m1, m1lt_nI, Nat.reduceEqDiff, Nat.reduceAdd, Nat.reduceMul, Nat.reduceSub, Nat.reduceLT, Nat.reduceLeDiff, reduceIte, if_true, if_false, Bool.false_eq_true, Nat.add_zero, Nat.zero_add, ne_eq, not_false_eq_true, not_true_eq_false, Nat.not_lt_zero, Nat.add_left_cancel_iff, Nat.add_right_cancel_iff, eq_self, upd_s, pk_sub, nI_pm, Nat.add_sub_cancel, List.length_cons, List.length_nil, Nat.add_eq_zero_iff, Nat.succ_ne_zero, and_false, false_and, l14, l18, l21, l23, l24, l26, l28, l29, l34, l35, l36, l41, l42, l43, l45, l47, l48, l49, l50, l51, l52, l57, l58, l59, l62, l63, l64, l96, l97, l98, l101, l102, l103, l104, l105, l106, l107, l108, l109, l110, l111, l112, l113, l114, l115, l116, l117, l118, l119, l121, l122, l127, l255, l700, l1320, l1000000, Bool.toNat_false, add_0]
      exact hkk hlt _ (by rw [cN_n (p := fun a => nwB v a a) hb])
    | true =>
      simp (disch := omega) only [xB_s, xB2_s, xGet_s, xPut_s, xAld_s, xAst_s, xIf_t, xBool_s, l0, l1, l2, l3, l4, l5, l6, l7, l8, l9, l10, l11, l12, l13, l15, l16, l17, l19, l20, l25, l27, l30, l31, l32, l33, l39, l40, l60, l61, l99, l100, l120, l256, l999, l1999, l99999, lm, nI_add, pk_mul, nI_leI, nI_ltI, nI_eq, wuS_1, wuS_2, wuA_1, wuA_21, wuA_22, nI_m1, m1_nI, nIlt_m1, m1lt_nI, Nat.reduceEqDiff, Nat.reduceAdd, Nat.reduceMul, Nat.reduceSub, Nat.reduceLT, Nat.reduceLeDiff, reduceIte, if_true, if_false, Bool.false_eq_true, Nat.add_zero, Nat.zero_add, ne_eq, not_false_eq_true, not_true_eq_false, Nat.not_lt_zero, Nat.add_left_cancel_iff, Nat.add_right_cancel_iff, eq_self, upd_s, pk_sub, nI_pm, Nat.add_sub_cancel, List.length_cons, List.length_nil, Nat.add_eq_zero_iff, Nat.succ_ne_zero, and_false, false_and, l14, l18, l21, l23, l24, l26, l28, l29, l34, l35, l36, l41, l42, l43, l45, l47, l48, l49, l50, l51, l52, l57, l58, l59, l62, l63, l64, l96, l97, l98, l101, l102, l103, l104, l105, l106, l107, l108, l109, l110, l111, l112, l113, l114, l115, l116, l117, l118, l119, l121, l122, l127, l255, l700, l1320, l1000000, Bool.toNat_true]
      exact hkk hlt _ (by rw [cN_y (p := fun a => nwB v a a) hb])
  · obtain rfl : a = n := by omega
    simp (disch := omega) only [xB_s, xB2_s, xGet_s, xPut_s, xAld_s, xAst_s, xIf_t, xBool_s, l0, l1, l2, l3, l4, l5, l6, l7, l8, l9, l10, l11, l12, l13, l15, l16, l17, l19, l20, l25, l27, l30, l31, l32, l33, l39, l40, l60, l61, l99, l100, l120, l256, l999, l1999, l99999, lm, nI_add, pk_mul, nI_leI, nI_ltI, nI_eq, wuS_1, wuS_2, wuA_1, wuA_21, wuA_22, nI_m1, m1_nI, nIlt_m1, m1lt_nI, Nat.reduceEqDiff, Nat.reduceAdd, Nat.reduceMul, Nat.reduceSub, Nat.reduceLT, Nat.reduceLeDiff, reduceIte, if_true, if_false, Bool.false_eq_true, Nat.add_zero, Nat.zero_add, ne_eq, not_false_eq_true, not_true_eq_false, Nat.not_lt_zero, Nat.add_left_cancel_iff, Nat.add_right_cancel_iff, eq_self, upd_s, pk_sub, nI_pm, Nat.add_sub_cancel, List.length_cons, List.length_nil, Nat.add_eq_zero_iff, Nat.succ_ne_zero, and_false, false_and, l14, l18, l21, l23, l24, l26, l28, l29, l34, l35, l36, l41, l42, l43, l45, l47, l48, l49, l50, l51, l52, l57, l58, l59, l62, l63, l64, l96, l97, l98, l101, l102, l103, l104, l105, l106, l107, l108, l109, l110, l111, l112, l113, l114, l115, l116, l117, l118, l119, l121, l122, l127, l255, l700, l1320, l1000000, Nat.le_refl]
    exact hk
theorem q_next {t : Tn} {y : Yw} {s : Sn} {o : wO} {wx wm : wS} {a1 : Int32} (h : PS t y s o wx wm) : R2 (L_X9_next o a1 wx) (L_X10_next a1 wm) (QA cdN wx wm) := by
  obtain ⟨hq, hs, hSx, hS⟩ := h
  obtain ⟨w1, e1, q1, z1, T1, Y1, h1⟩ := hq.put
  have hh := hq
  obtain ⟨⟨ho, hy, hD⟩, ⟨hT, hY⟩, _⟩ := hh
  have b2 := ho.2.1
  have hp1 : PS t y s o wx w1 := ⟨h1, hs, hSx, hS.q q1⟩
  unfold L_X9_next L_X10_next
  simp only [xB_s, xB2_s, xIf_t, xBT_n, xBT_e, l0, l1, l2, l3, l4, l5, l6, l7, l8, l9, l10, l11, l12, l13, l15, l16, l17, l19, l20, l25, l27, l30, l31, l32, l33, l39, l40, l60, l61, l99, l100, l120, l256, l999, l1999, l99999, lm, l14, l18, l21, l23, l24, l26, l28, l29, l34, l35, l36, l41, l42, l43, l45, l47, l48, l49, l50, l51, l52, l57, l58, l59, l62, l63, l64, l96, l97, l98, l101, l102, l103, l104, l105, l106, l107, l108, l109, l110, l111, l112, l113, l114, l115, l116, l117, l118, l119, l121, l122, l127, l255, l700, l1320, l1000000, e1]
  refine g_what (by omega) z1 (by simp (disch := omega) only [xB_s, xB2_s, xGet_s, xPut_s, xAld_s, xAst_s, xIf_t, xBool_s, l0, l1, l2, l3, l4, l5, l6, l7, l8, l9, l10, l11, l12, l13, l15, l16, l17, l19, l20, l25, l27, l30, l31, l32, l33, l39, l40, l60, l61, l99, l100, l120, l256, l999, l1999, l99999, lm, nI_add, pk_mul, nI_leI, nI_ltI, nI_eq, wuS_1, wuS_2, wuA_1, wuA_21, wuA_22, nI_m1, m1_nI, nIlt_m1, m1lt_nI, Nat.reduceEqDiff, Nat.reduceAdd, Nat.reduceMul, Nat.reduceSub, Nat.reduceLT, Nat.reduceLeDiff, reduceIte, if_true, if_false, Bool.false_eq_true, Nat.add_zero, Nat.zero_add, ne_eq, not_false_eq_true, not_true_eq_false, Nat.not_lt_zero, Nat.add_left_cancel_iff, Nat.add_right_cancel_iff, eq_self, upd_s, pk_sub, nI_pm, Nat.add_sub_cancel, List.length_cons, List.length_nil, Nat.add_eq_zero_iff, Nat.succ_ne_zero, and_false, false_and, l14, l18, l21, l23, l24, l26, l28, l29, l34, l35, l36, l41, l42, l43, l45, l47, l48, l49, l50, l51, l52, l57, l58, l59, l62, l63, l64, l96, l97, l98, l101, l102, l103, l104, l105, l106, l107, l108, l109, l110, l111, l112, l113, l114, l115, l116, l117, l118, l119, l121, l122, l127, l255, l700, l1320, l1000000]; exact QA.no q1) ?_
  rintro a ha rfl
  simp (disch := omega) only [xB_s, xB2_s, xGet_s, xPut_s, xAld_s, xAst_s, xIf_t, xBool_s, l0, l1, l2, l3, l4, l5, l6, l7, l8, l9, l10, l11, l12, l13, l15, l16, l17, l19, l20, l25, l27, l30, l31, l32, l33, l39, l40, l60, l61, l99, l100, l120, l256, l999, l1999, l99999, lm, nI_add, pk_mul, nI_leI, nI_ltI, nI_eq, wuS_1, wuS_2, wuA_1, wuA_21, wuA_22, nI_m1, m1_nI, nIlt_m1, m1lt_nI, Nat.reduceEqDiff, Nat.reduceAdd, Nat.reduceMul, Nat.reduceSub, Nat.reduceLT, Nat.reduceLeDiff, reduceIte, if_true, if_false, Bool.false_eq_true, Nat.add_zero, Nat.zero_add, ne_eq, not_false_eq_true, not_true_eq_false, Nat.not_lt_zero, Nat.add_left_cancel_iff, Nat.add_right_cancel_iff, eq_self, upd_s, pk_sub, nI_pm, Nat.add_sub_cancel, List.length_cons, List.length_nil, Nat.add_eq_zero_iff, Nat.succ_ne_zero, and_false, false_and, l14, l18, l21, l23, l24, l26, l28, l29, l34, l35, l36, l41, l42, l43, l45, l47, l48, l49, l50, l51, l52, l57, l58, l59, l62, l63, l64, l96, l97, l98, l101, l102, l103, l104, l105, l106, l107, l108, l109, l110, l111, l112, l113, l114, l115, l116, l117, l118, l119, l121, l122, l127, l255, l700, l1320, l1000000]
  refine R2.x x_fillJ ?_
  rintro w20 ⟨f1, f2⟩
  refine R2.iffX.mpr (x_nextL ⟨hq, hs, hSx, hS⟩ f1 f2 ?_)
  intro wx' qx hx
  refine R2.iffX.mp ?_
  refine R2.iffM.mpr (m_nextL hp1 z1 ?_)
  intro wm' n v qm zm hn hv hle hin
  refine R2.iffM.mp ?_
  have T2 := T1.q qm rfl
  have hT2 := hT.q qx
  have r9 := xRef_t hT2.2.1
  unfold P_X9_next_81 P_X10_next_96
  refine r_for (tD t) (fun d σ σ' => ∃ (b : Option Nat) (m : Nat), m ≤ 488 ∧ σ = (nI a, oI b, nI m, nI d, wx') ∧ σ' = (nI a, nI n, oI b, nI m, nI d, wm')) ?_ (i := 0) (by omega) (by omega) (by omega) ⟨none, 0, by omega, rfl, rfl⟩
  rintro d _ _ kx km hd ⟨b, m, hm, rfl, rfl⟩ hkk
  show R2 (B_X9_next_81 o (fun x1 x2 x3 x4 w => kx (x1, x2, x3, x4, w)) _ (nI a) (oI b) (nI m) (nI d) wx') (B_X10_next_96 (fun x1 x2 x3 x4 x5 w => km (x1, x2, x3, x4, x5, w)) _ (nI a) (nI n) (oI b) (nI m) (nI d) wm') _
  unfold B_X9_next_81 B_X10_next_96 J_X9_next_134
  by_cases hlt : d < tD t
  · have c1 := bc64 (wx'.2.2.2.1 52 (2 * d))
    have c2 := bc64 (wx'.2.2.2.1 52 (2 * d + 1))
    have c3 := hb_pc (w := wx') (d := d)
    have c4 : cN (hb wx' d) 128 = cN (fun m => inI (v d) m n) 128 := cN_cong (fun m hm => by rw [hx d hlt m hm, hin d m hlt])
    have c5 := dc_eq (v := v d) (N := 128) (n := n) (fun j hj => by have := hle d j hj; omega)
    have c6 := cN_le (fun a => nwB (v d) a a) n
    simp (disch := omega) only [xB_s, xB2_s, xGet_s, xPut_s, xAld_s, xAst_s, xIf_t, xBool_s, l0, l1, l2, l3, l4, l5, l6, l7, l8, l9, l10, l11, l12, l13, l15, l16, l17, l19, l20, l25, l27, l30, l31, l32, l33, l39, l40, l60, l61, l99, l100, l120, l256, l999, l1999, l99999, lm, nI_add, pk_mul, nI_leI, nI_ltI, nI_eq, wuS_1, wuS_2, wuA_1, wuA_21, wuA_22, nI_m1, m1_nI, nIlt_m1, m1lt_nI, Nat.reduceEqDiff, Nat.reduceAdd, Nat.reduceMul, Nat.reduceSub, Nat.reduceLT, Nat.reduceLeDiff, reduceIte, if_true, if_false, Bool.false_eq_true, Nat.add_zero, Nat.zero_add, ne_eq, not_false_eq_true, not_true_eq_false, Nat.not_lt_zero, Nat.add_left_cancel_iff, Nat.add_right_cancel_iff, eq_self, upd_s, pk_sub, nI_pm, Nat.add_sub_cancel, List.length_cons, List.length_nil, Nat.add_eq_zero_iff, Nat.succ_ne_zero, and_false, false_and, l14, l18, l21, l23, l24, l26, l28, l29, l34, l35, l36, l41, l42, l43, l45, l47, l48, l49, l50, l51, l52, l57, l58, l59, l62, l63, l64, l96, l97, l98, l101, l102, l103, l104, l105, l106, l107, l108, l109, l110, l111, l112, l113, l114, l115, l116, l117, l118, l119, l121, l122, l127, l255, l700, l1320, l1000000, r9, hT2.1.2.1, T2.2.1, show (tD t ≤ d) = False from eq_false (by omega), xAldJ_s, c1, c2]
    rw [c3, c4, ← c5]
    refine R2.iffM.mpr (m_unlike hn (by omega) (fun j hj => hv j hj d hlt) (fun j hj => hle d j hj) (R2.iffM.mp ?_))
    generalize cN (fun a => nwB (v d) a a) n = u at *
    simp (disch := omega) only [xB_s, xB2_s, xGet_s, xPut_s, xAld_s, xAst_s, xIf_t, xBool_s, l0, l1, l2, l3, l4, l5, l6, l7, l8, l9, l10, l11, l12, l13, l15, l16, l17, l19, l20, l25, l27, l30, l31, l32, l33, l39, l40, l60, l61, l99, l100, l120, l256, l999, l1999, l99999, lm, nI_add, pk_mul, nI_leI, nI_ltI, nI_eq, wuS_1, wuS_2, wuA_1, wuA_21, wuA_22, nI_m1, m1_nI, nIlt_m1, m1lt_nI, Nat.reduceEqDiff, Nat.reduceAdd, Nat.reduceMul, Nat.reduceSub, Nat.reduceLT, Nat.reduceLeDiff, reduceIte, if_true, if_false, Bool.false_eq_true, Nat.add_zero, Nat.zero_add, ne_eq, not_false_eq_true, not_true_eq_false, Nat.not_lt_zero, Nat.add_left_cancel_iff, Nat.add_right_cancel_iff, eq_self, upd_s, pk_sub, nI_pm, Nat.add_sub_cancel, List.length_cons, List.length_nil, Nat.add_eq_zero_iff, Nat.succ_ne_zero, and_false, false_and, l14, l18, l21, l23, l24, l26, l28, l29, l34, l35, l36, l41, l42, l43, l45, l47, l48, l49, l50, l51, l52, l57, l58, l59, l62, l63, l64, l96, l97, l98, l101, l102, l103, l104, l105, l106, l107, l108, l109, l110, l111, l112, l113, l114, l115, l116, l117, l118, l119, l121, l122, l127, l255, l700, l1320, l1000000, J_X10_next_215]
    by_cases e : u ≤ m
    · rw [if_pos e, if_neg (show ¬ m < u by omega)]
      exact hkk hlt _ _ ⟨b, m, hm, rfl, rfl⟩
    · rw [if_neg e, if_pos (show m < u by omega)]
      exact hkk hlt _ _ ⟨some d, u, by omega, rfl, rfl⟩
  · obtain rfl : d = tD t := by omega
    simp (disch := omega) only [xB_s, xB2_s, xGet_s, xPut_s, xAld_s, xAst_s, xIf_t, xBool_s, l0, l1, l2, l3, l4, l5, l6, l7, l8, l9, l10, l11, l12, l13, l15, l16, l17, l19, l20, l25, l27, l30, l31, l32, l33, l39, l40, l60, l61, l99, l100, l120, l256, l999, l1999, l99999, lm, nI_add, pk_mul, nI_leI, nI_ltI, nI_eq, wuS_1, wuS_2, wuA_1, wuA_21, wuA_22, nI_m1, m1_nI, nIlt_m1, m1lt_nI, Nat.reduceEqDiff, Nat.reduceAdd, Nat.reduceMul, Nat.reduceSub, Nat.reduceLT, Nat.reduceLeDiff, reduceIte, if_true, if_false, Bool.false_eq_true, Nat.add_zero, Nat.zero_add, ne_eq, not_false_eq_true, not_true_eq_false, Nat.not_lt_zero, Nat.add_left_cancel_iff, Nat.add_right_cancel_iff, eq_self, upd_s, pk_sub, nI_pm, Nat.add_sub_cancel, List.length_cons, List.length_nil, Nat.add_eq_zero_iff, Nat.succ_ne_zero, and_false, false_and, l14, l18, l21, l23, l24, l26, l28, l29, l34, l35, l36, l41, l42, l43, l45, l47, l48, l49, l50, l51, l52, l57, l58, l59, l62, l63, l64, l96, l97, l98, l101, l102, l103, l104, l105, l106, l107, l108, l109, l110, l111, l112, l113, l114, l115, l116, l117, l118, l119, l121, l122, l127, l255, l700, l1320, l1000000, r9, hT2.1.2.1, T2.2.1, Nat.le_refl, J_X9_next_149, J_X10_next_231]
    by_cases e : a = 0
    · rw [if_pos e, if_pos e]
      exact QA.ok qx (q1.trans qm) zm rfl
    · rw [if_neg e, if_neg e]
      exact QA.ok qx (q1.trans qm) zm rfl
end
