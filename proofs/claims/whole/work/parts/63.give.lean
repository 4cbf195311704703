/-! ===== the rule in the steps of LateRingers ===== -/
def xCode (a : Nat) : Int32 := if a = 0 then -102 else if a = 1 then -101 else if a = 2 then -60 else if a = 3 then -61 else if a = 4 then -43 else if a = 5 then -45 else if a = 6 then -42 else -47
def xSt (s : Op) : Int32 := if s.1 = 0 then nI s.2 else if s.1 = 1 then mI - nI s.2 else if s.1 = 2 then -103 else xCode s.2
theorem ofN (n : Nat) : Int32.ofNat n = nI n := Eq.trans rfl rfl
theorem xs_lt {s : Op} (h : s.1 = 0 ∧ s.2 < 10000 ∨ s.1 = 1 ∧ s.2 < 7) : (xSt s < -(nI 7)) = False := by
  refine eq_false ?_
  unfold xSt
  rcases h with ⟨h, h2⟩ | ⟨h, h2⟩
  · rw [if_pos h]
    intro q
    have := Int32.lt_iff_toInt_lt.mp q
    rw [nI_toInt (by omega), show (-(nI 7)).toInt = -7 by decide] at this
    omega
  · rw [if_neg (by omega), if_pos h]
    have h7 : s.2 = 0 ∨ s.2 = 1 ∨ s.2 = 2 ∨ s.2 = 3 ∨ s.2 = 4 ∨ s.2 = 5 ∨ s.2 = 6 := by omega
    rcases h7 with e | e | e | e | e | e | e <;> rw [e] <;> decide
theorem xs_lt' {s : Op} (h : ¬ s.1 = 0) (h1 : ¬ s.1 = 1) : (xSt s < -(nI 7)) = True := by
  refine eq_true ?_
  unfold xSt xCode
  rw [if_neg h, if_neg h1]
  repeat' (first | decide | split)
theorem xs_neg {s : Op} (h : s.1 = 1) (h2 : s.2 < 7) : (xSt s < nI 0) = True ∧ mI - xSt s = nI s.2 := by
  unfold xSt
  rw [if_neg (by omega), if_pos h]
  have h7 : s.2 = 0 ∨ s.2 = 1 ∨ s.2 = 2 ∨ s.2 = 3 ∨ s.2 = 4 ∨ s.2 = 5 ∨ s.2 = 6 := by omega
  rcases h7 with e | e | e | e | e | e | e <;> rw [e] <;> exact ⟨eq_true (by decide), by decide⟩
theorem xs_num {s : Op} (h : s.1 = 0) : xSt s = nI s.2 := by
  unfold xSt
  rw [if_pos h]
theorem xs_not {s : Op} (h : s.1 = 2) : xSt s = -103 := by
  unfold xSt
  rw [if_neg (by omega), if_neg (by omega), if_pos h]
theorem xs_op {s : Op} (h : ¬ s.1 = 0) (h1 : ¬ s.1 = 1) (h2 : ¬ s.1 = 2) : xSt s = xCode s.2 := by
  unfold xSt
  rw [if_neg h, if_neg h1, if_neg h2]
theorem xs_nn (a : Nat) : (xCode a = -103) = False := by
  refine eq_false ?_
  unfold xCode
  repeat' (first | decide | split)
theorem x_joined {a : Nat} {u v : Int32} (h : a < 8) : L_X3_joined (xCode a) u v = some (bop a u v) := by
  have h8 : a = 0 ∨ a = 1 ∨ a = 2 ∨ a = 3 ∨ a = 4 ∨ a = 5 ∨ a = 6 ∨ a = 7 := by omega
  unfold L_X3_joined bop J_X3_joined_141 J_X3_joined_136 J_X3_joined_127 J_X3_joined_126 J_X3_joined_113 J_X3_joined_102 J_X3_joined_91 J_X3_joined_141 J_X3_joined_127
  rcases h8 with rfl | rfl | rfl | rfl | rfl | rfl | rfl | rfl
  · have e : xCode 0 = (-102 : Int32) := by decide
    rw [e]
    simp only [show ((-102 : Int32) = -102) = True from eq_true (by decide), show ((-102 : Int32) = -61) = False from eq_false (by decide), show ((-102 : Int32) = -60) = False from eq_false (by decide), show ((-102 : Int32) = -47) = False from eq_false (by decide), show ((-102 : Int32) = -45) = False from eq_false (by decide), show ((-102 : Int32) = -43) = False from eq_false (by decide), show ((-102 : Int32) = -42) = False from eq_false (by decide), if_true, if_false, l0, l1, xB_s, Nat.reduceEqDiff, reduceIte]
    by_cases hu : u = nI 0
    · rw [if_pos hu, if_pos hu]
    · rw [if_neg hu, if_neg hu]
      by_cases hv : v = nI 0
      · rw [if_pos hv, if_pos hv]
      · rw [if_neg hv, if_neg hv]
  · have e : xCode 1 = (-101 : Int32) := by decide
    rw [e]
    simp only [show ((-101 : Int32) = -102) = False from eq_false (by decide), show ((-101 : Int32) = -61) = False from eq_false (by decide), show ((-101 : Int32) = -60) = False from eq_false (by decide), show ((-101 : Int32) = -47) = False from eq_false (by decide), show ((-101 : Int32) = -45) = False from eq_false (by decide), show ((-101 : Int32) = -43) = False from eq_false (by decide), show ((-101 : Int32) = -42) = False from eq_false (by decide), if_true, if_false, l0, l1, xB_s, Nat.reduceEqDiff, reduceIte]
    by_cases hu : u = nI 0
    · rw [if_pos hu, if_pos hu]
      by_cases hv : v = nI 0
      · rw [if_pos hv, if_pos hv]
      · rw [if_neg hv, if_neg hv]
    · rw [if_neg hu, if_neg hu]
  · have e : xCode 2 = (-60 : Int32) := by decide
    rw [e]
    simp only [show ((-60 : Int32) = -102) = False from eq_false (by decide), show ((-60 : Int32) = -61) = False from eq_false (by decide), show ((-60 : Int32) = -60) = True from eq_true (by decide), show ((-60 : Int32) = -47) = False from eq_false (by decide), show ((-60 : Int32) = -45) = False from eq_false (by decide), show ((-60 : Int32) = -43) = False from eq_false (by decide), show ((-60 : Int32) = -42) = False from eq_false (by decide), if_true, if_false, l0, l1, xB_s, Nat.reduceEqDiff, reduceIte]
    by_cases hu : v ≤ u
    · rw [if_pos hu, if_pos hu]
    · rw [if_neg hu, if_neg hu]
  · have e : xCode 3 = (-61 : Int32) := by decide
    rw [e]
    simp only [show ((-61 : Int32) = -102) = False from eq_false (by decide), show ((-61 : Int32) = -61) = True from eq_true (by decide), show ((-61 : Int32) = -60) = False from eq_false (by decide), show ((-61 : Int32) = -47) = False from eq_false (by decide), show ((-61 : Int32) = -45) = False from eq_false (by decide), show ((-61 : Int32) = -43) = False from eq_false (by decide), show ((-61 : Int32) = -42) = False from eq_false (by decide), if_true, if_false, l0, l1, xB_s, Nat.reduceEqDiff, reduceIte]
    by_cases hu : u = v
    · rw [if_pos hu, if_pos hu]
    · rw [if_neg hu, if_neg hu]
  · have e : xCode 4 = (-43 : Int32) := by decide
    rw [e]
    simp only [show ((-43 : Int32) = -102) = False from eq_false (by decide), show ((-43 : Int32) = -61) = False from eq_false (by decide), show ((-43 : Int32) = -60) = False from eq_false (by decide), show ((-43 : Int32) = -47) = False from eq_false (by decide), show ((-43 : Int32) = -45) = False from eq_false (by decide), show ((-43 : Int32) = -43) = True from eq_true (by decide), show ((-43 : Int32) = -42) = False from eq_false (by decide), if_true, if_false, l0, l1, xB_s, Nat.reduceEqDiff, reduceIte]
  · have e : xCode 5 = (-45 : Int32) := by decide
    rw [e]
    simp only [show ((-45 : Int32) = -102) = False from eq_false (by decide), show ((-45 : Int32) = -61) = False from eq_false (by decide), show ((-45 : Int32) = -60) = False from eq_false (by decide), show ((-45 : Int32) = -47) = False from eq_false (by decide), show ((-45 : Int32) = -45) = True from eq_true (by decide), show ((-45 : Int32) = -43) = False from eq_false (by decide), show ((-45 : Int32) = -42) = False from eq_false (by decide), if_true, if_false, l0, l1, xB_s, Nat.reduceEqDiff, reduceIte]
  · have e : xCode 6 = (-42 : Int32) := by decide
    rw [e]
    simp only [show ((-42 : Int32) = -102) = False from eq_false (by decide), show ((-42 : Int32) = -61) = False from eq_false (by decide), show ((-42 : Int32) = -60) = False from eq_false (by decide), show ((-42 : Int32) = -47) = False from eq_false (by decide), show ((-42 : Int32) = -45) = False from eq_false (by decide), show ((-42 : Int32) = -43) = False from eq_false (by decide), show ((-42 : Int32) = -42) = True from eq_true (by decide), if_true, if_false, l0, l1, xB_s, Nat.reduceEqDiff, reduceIte]
  · have e : xCode 7 = (-47 : Int32) := by decide
    rw [e]
    simp only [show ((-47 : Int32) = -102) = False from eq_false (by decide), show ((-47 : Int32) = -61) = False from eq_false (by decide), show ((-47 : Int32) = -60) = False from eq_false (by decide), show ((-47 : Int32) = -47) = True from eq_true (by decide), show ((-47 : Int32) = -45) = False from eq_false (by decide), show ((-47 : Int32) = -43) = False from eq_false (by decide), show ((-47 : Int32) = -42) = False from eq_false (by decide), if_true, if_false, l0, l1, xB_s, Nat.reduceEqDiff, reduceIte]
    by_cases hu : v = nI 0
    · rw [if_pos hu, if_pos hu]
    · rw [if_neg hu, if_neg hu]
      unfold xDiv
      rw [if_neg (show ¬ v = 0 from hu)]
      rfl
theorem x_give_r {o : wO} {w : wS} {vs : Nat → Int32} {s : List Op} (hn : oRn o = s.length) (hl : s.length ≤ 700) (hc : ∀ (j : Nat) (x : Op), s[j]? = some x → w.2.1 2001 j = xSt x) (hw : wfR 0 s) (hv : ∀ k, k < 7 → w.2.1 40 k = vs k) : wpO (L_X3_give_r0_x40 o w) (fun r => r.1 = evR vs s [] ∧ Fr [] [2002] w r.2) := by
  unfold L_X3_give_r0_x40 P_X3_give_r0_x40_4
  generalize hV : evR vs s [] = V
  refine wp_loop (fun n σ => ∃ (st : List Int32) (ops : List Op) (k : Nat) (w' : wS), σ = (nI st.length, nI k, w') ∧ n = ops.length ∧ k + ops.length = s.length ∧ st.length ≤ 64 ∧ (∀ (j : Nat) (x : Op), ops[j]? = some x → w.2.1 2001 (k + j) = xSt x) ∧ wfR st.length ops ∧ evR vs ops st = V ∧ StA (w'.2.1 2002) st ∧ Fr [] [2002] w w') ?_ 5000 s.length _ (by omega) ⟨[], s, 0, w, by rw [l0]; rfl, rfl, by omega, by decide, by simpa using hc, hw, hV, trivial, Fr.refl⟩
  rintro n _ kk ⟨st, ops, k, w', rfl, rfl, hlen, h64, hc, hw, he, hs, hf⟩ hk
  have hA : w'.2.1 2001 = w.2.1 2001 := hf.2.1 2001 (by decide)
  have hB : w'.2.1 40 = w.2.1 40 := hf.2.1 40 (by decide)
  show wpO (B_X3_give_r0_x40_4 o (fun x2 x3 w => kk (x2, x3, w)) _ (nI st.length) (nI k) w') _
  unfold B_X3_give_r0_x40_4
  rw [ofN, hn]
  cases ops with
  | nil =>
    rw [List.length_nil] at hlen
    cases st with
    | nil => exact absurd hw Nat.zero_ne_one
    | cons v q =>
      have hq : q = [] := List.length_eq_zero_iff.mp (Nat.succ.inj hw)
      subst hq
      rw [evR_nil] at he
      have h0 : w'.2.1 2002 0 = v := hs.1
      simp (disch := omega) only [xB_s, xB2_s, xGet_s, xPut_s, xAld_s, xAst_s, xIf_t, xBool_s, l0, l1, l2, l3, l4, l5, l6, l7, l8, l9, l10, l11, l12, l13, l15, l16, l17, l19, l20, l25, l27, l30, l31, l32, l33, l39, l40, l60, l61, l99, l100, l120, l256, l999, l1999, l99999, lm, nI_add, pk_mul, nI_leI, nI_ltI, nI_eq, wuS_1, wuS_2, wuA_1, wuA_21, wuA_22, nI_m1, m1_nI, nIlt_m1, m1lt_nI, Nat.reduceEqDiff, Nat.reduceAdd, Nat.reduceMul, Nat.reduceSub, Nat.reduceLT, Nat.reduceLeDiff, reduceIte, if_true, if_false, Bool.false_eq_true, Nat.add_zero, Nat.zero_add, ne_eq, not_false_eq_true, not_true_eq_false, Nat.not_lt_zero, Nat.add_left_cancel_iff, Nat.add_right_cancel_iff, eq_self, upd_s, pk_sub, nI_pm, Nat.add_sub_cancel, List.length_cons, List.length_nil, Nat.add_eq_zero_iff, Nat.succ_ne_zero, and_false, false_and, show (s.length ≤ k) = True from eq_true (by omega), h0, he]
      exact wp_some ⟨rfl, hf⟩
  | cons s1 r =>
    rw [List.length_cons] at hlen
    have hx := hc 0 s1 rfl
    rw [Nat.add_zero] at hx
    have hr : ∀ (j : Nat) (x : Op), r[j]? = some x → w.2.1 2001 (k + 1 + j) = xSt x := fun j x hj => by
      have := hc (j + 1) x (by simpa using hj)
      rw [show k + 1 + j = k + (j + 1) by omega]
      exact this
    unfold wfR at hw
    by_cases q0 : s1.1 = 0
    · rw [if_pos q0] at hw
      obtain ⟨g1, g2, g3⟩ := hw
      rw [evR_num q0] at he
      simp (disch := omega) only [xB_s, xB2_s, xGet_s, xPut_s, xAld_s, xAst_s, xIf_t, xBool_s, l0, l1, l2, l3, l4, l5, l6, l7, l8, l9, l10, l11, l12, l13, l15, l16, l17, l19, l20, l25, l27, l30, l31, l32, l33, l39, l40, l60, l61, l99, l100, l120, l256, l999, l1999, l99999, lm, nI_add, pk_mul, nI_leI, nI_ltI, nI_eq, wuS_1, wuS_2, wuA_1, wuA_21, wuA_22, nI_m1, m1_nI, nIlt_m1, m1lt_nI, Nat.reduceEqDiff, Nat.reduceAdd, Nat.reduceMul, Nat.reduceSub, Nat.reduceLT, Nat.reduceLeDiff, reduceIte, if_true, if_false, Bool.false_eq_true, Nat.add_zero, Nat.zero_add, ne_eq, not_false_eq_true, not_true_eq_false, Nat.not_lt_zero, Nat.add_left_cancel_iff, Nat.add_right_cancel_iff, eq_self, upd_s, pk_sub, nI_pm, Nat.add_sub_cancel, List.length_cons, List.length_nil, Nat.add_eq_zero_iff, Nat.succ_ne_zero, and_false, false_and, show (s.length ≤ k) = False from eq_false (by omega), hA, hx, xs_lt (Or.inl ⟨q0, g2⟩), show (64 ≤ st.length) = False from eq_false (by omega), show (64 : Int32) = nI 64 by decide, J_X3_give_r0_x40_55, J_X3_give_r0_x40_136]
      rw [xs_num q0]
      simp (disch := omega) only [xB_s, xB2_s, xGet_s, xPut_s, xAld_s, xAst_s, xIf_t, xBool_s, l0, l1, l2, l3, l4, l5, l6, l7, l8, l9, l10, l11, l12, l13, l15, l16, l17, l19, l20, l25, l27, l30, l31, l32, l33, l39, l40, l60, l61, l99, l100, l120, l256, l999, l1999, l99999, lm, nI_add, pk_mul, nI_leI, nI_ltI, nI_eq, wuS_1, wuS_2, wuA_1, wuA_21, wuA_22, nI_m1, m1_nI, nIlt_m1, m1lt_nI, Nat.reduceEqDiff, Nat.reduceAdd, Nat.reduceMul, Nat.reduceSub, Nat.reduceLT, Nat.reduceLeDiff, reduceIte, if_true, if_false, Bool.false_eq_true, Nat.add_zero, Nat.zero_add, ne_eq, not_false_eq_true, not_true_eq_false, Nat.not_lt_zero, Nat.add_left_cancel_iff, Nat.add_right_cancel_iff, eq_self, upd_s, pk_sub, nI_pm, Nat.add_sub_cancel, List.length_cons, List.length_nil, Nat.add_eq_zero_iff, Nat.succ_ne_zero, and_false, false_and]
      exact hk r.length _ (Nat.lt_succ_self _) ⟨nI s1.2 :: st, r, k + 1, _, rfl, rfl, by omega, g1, hr, g3, he, StA_push hs, hf.A (by decide)⟩
    · rw [if_neg q0] at hw
      by_cases q1 : s1.1 = 1
      · rw [if_pos q1] at hw
        obtain ⟨g1, g2, g3⟩ := hw
        rw [evR_val q0 q1] at he
        simp (disch := omega) only [xB_s, xB2_s, xGet_s, xPut_s, xAld_s, xAst_s, xIf_t, xBool_s, l0, l1, l2, l3, l4, l5, l6, l7, l8, l9, l10, l11, l12, l13, l15, l16, l17, l19, l20, l25, l27, l30, l31, l32, l33, l39, l40, l60, l61, l99, l100, l120, l256, l999, l1999, l99999, lm, nI_add, pk_mul, nI_leI, nI_ltI, nI_eq, wuS_1, wuS_2, wuA_1, wuA_21, wuA_22, nI_m1, m1_nI, nIlt_m1, m1lt_nI, Nat.reduceEqDiff, Nat.reduceAdd, Nat.reduceMul, Nat.reduceSub, Nat.reduceLT, Nat.reduceLeDiff, reduceIte, if_true, if_false, Bool.false_eq_true, Nat.add_zero, Nat.zero_add, ne_eq, not_false_eq_true, not_true_eq_false, Nat.not_lt_zero, Nat.add_left_cancel_iff, Nat.add_right_cancel_iff, eq_self, upd_s, pk_sub, nI_pm, Nat.add_sub_cancel, List.length_cons, List.length_nil, Nat.add_eq_zero_iff, Nat.succ_ne_zero, and_false, false_and, show (s.length ≤ k) = False from eq_false (by omega), hA, hB, hx, xs_lt (Or.inr ⟨q1, g2⟩), (xs_neg q1 g2).1, (xs_neg q1 g2).2, hv _ g2, show (64 ≤ st.length) = False from eq_false (by omega), show (64 : Int32) = nI 64 by decide, J_X3_give_r0_x40_55, J_X3_give_r0_x40_136]
        exact hk r.length _ (Nat.lt_succ_self _) ⟨vs s1.2 :: st, r, k + 1, _, rfl, rfl, by omega, g1, hr, g3, he, StA_push hs, hf.A (by decide)⟩
      · rw [if_neg q1] at hw
        by_cases q2 : s1.1 = 2
        · rw [if_pos q2] at hw
          cases st with
          | nil => exact absurd hw.1 (by decide)
          | cons v q =>
            rw [evR_not q0 q1 q2] at he
            have hq : w'.2.1 2002 q.length = v := hs.1
            have hx2 : q.length + 1 ≤ 64 := h64
            simp (disch := omega) only [xB_s, xB2_s, xGet_s, xPut_s, xAld_s, xAst_s, xIf_t, xBool_s, l0, l1, l2, l3, l4, l5, l6, l7, l8, l9, l10, l11, l12, l13, l15, l16, l17, l19, l20, l25, l27, l30, l31, l32, l33, l39, l40, l60, l61, l99, l100, l120, l256, l999, l1999, l99999, lm, nI_add, pk_mul, nI_leI, nI_ltI, nI_eq, wuS_1, wuS_2, wuA_1, wuA_21, wuA_22, nI_m1, m1_nI, nIlt_m1, m1lt_nI, Nat.reduceEqDiff, Nat.reduceAdd, Nat.reduceMul, Nat.reduceSub, Nat.reduceLT, Nat.reduceLeDiff, reduceIte, if_true, if_false, Bool.false_eq_true, Nat.add_zero, Nat.zero_add, ne_eq, not_false_eq_true, not_true_eq_false, Nat.not_lt_zero, Nat.add_left_cancel_iff, Nat.add_right_cancel_iff, eq_self, upd_s, pk_sub, nI_pm, Nat.add_sub_cancel, List.length_cons, List.length_nil, Nat.add_eq_zero_iff, Nat.succ_ne_zero, and_false, false_and, show (s.length ≤ k) = False from eq_false (by omega), hA, hx, xs_lt' q0 q1, hq, J_X3_give_r0_x40_97, J_X3_give_r0_x40_136, show (q.length + 1 < 1) = False from eq_false (by omega)]
            rw [xs_not q2]
            simp (disch := omega) only [xB_s, xB2_s, xGet_s, xPut_s, xAld_s, xAst_s, xIf_t, xBool_s, l0, l1, l2, l3, l4, l5, l6, l7, l8, l9, l10, l11, l12, l13, l15, l16, l17, l19, l20, l25, l27, l30, l31, l32, l33, l39, l40, l60, l61, l99, l100, l120, l256, l999, l1999, l99999, lm, nI_add, pk_mul, nI_leI, nI_ltI, nI_eq, wuS_1, wuS_2, wuA_1, wuA_21, wuA_22, nI_m1, m1_nI, nIlt_m1, m1lt_nI, Nat.reduceEqDiff, Nat.reduceAdd, Nat.reduceMul, Nat.reduceSub, Nat.reduceLT, Nat.reduceLeDiff, reduceIte, if_true, if_false, Bool.false_eq_true, Nat.add_zero, Nat.zero_add, ne_eq, not_false_eq_true, not_true_eq_false, Nat.not_lt_zero, Nat.add_left_cancel_iff, Nat.add_right_cancel_iff, eq_self, upd_s, pk_sub, nI_pm, Nat.add_sub_cancel, List.length_cons, List.length_nil, Nat.add_eq_zero_iff, Nat.succ_ne_zero, and_false, false_and]
            by_cases hz : v = nI 0
            · rw [if_pos hz] at he ⊢
              exact hk r.length _ (Nat.lt_succ_self _) ⟨nI 1 :: q, r, k + 1, _, rfl, rfl, by omega, h64, hr, hw.2, he, StA_push hs.2, hf.A (by decide)⟩
            · rw [if_neg hz] at he ⊢
              exact hk r.length _ (Nat.lt_succ_self _) ⟨nI 0 :: q, r, k + 1, _, rfl, rfl, by omega, h64, hr, hw.2, he, StA_push hs.2, hf.A (by decide)⟩
        · rw [if_neg q2] at hw
          obtain ⟨g1, g2, g3⟩ := hw
          match st, g1, hs, he, h64, g3 with
          | [], g1, _, _, _, _ => exact absurd g1 (Nat.not_succ_le_zero 1)
          | [v], g1, _, _, _, _ => exact absurd g1 (show ¬ 2 ≤ 1 by decide)
          | v :: u :: q, g1, hs, he, h64, g3 =>
            rw [evR_op q0 q1 q2] at he
            have hq : w'.2.1 2002 (q.length + 1) = v := hs.1
            have hq2 : w'.2.1 2002 q.length = u := hs.2.1
            have hx2 : q.length + 1 + 1 ≤ 64 := h64
            simp (disch := omega) only [xB_s, xB2_s, xGet_s, xPut_s, xAld_s, xAst_s, xIf_t, xBool_s, l0, l1, l2, l3, l4, l5, l6, l7, l8, l9, l10, l11, l12, l13, l15, l16, l17, l19, l20, l25, l27, l30, l31, l32, l33, l39, l40, l60, l61, l99, l100, l120, l256, l999, l1999, l99999, lm, nI_add, pk_mul, nI_leI, nI_ltI, nI_eq, wuS_1, wuS_2, wuA_1, wuA_21, wuA_22, nI_m1, m1_nI, nIlt_m1, m1lt_nI, Nat.reduceEqDiff, Nat.reduceAdd, Nat.reduceMul, Nat.reduceSub, Nat.reduceLT, Nat.reduceLeDiff, reduceIte, if_true, if_false, Bool.false_eq_true, Nat.add_zero, Nat.zero_add, ne_eq, not_false_eq_true, not_true_eq_false, Nat.not_lt_zero, Nat.add_left_cancel_iff, Nat.add_right_cancel_iff, eq_self, upd_s, pk_sub, nI_pm, Nat.add_sub_cancel, List.length_cons, List.length_nil, Nat.add_eq_zero_iff, Nat.succ_ne_zero, and_false, false_and, show (s.length ≤ k) = False from eq_false (by omega), hA, hx, xs_lt' q0 q1, hq, hq2, J_X3_give_r0_x40_136, show (q.length + 1 + 1 < 2) = False from eq_false (by omega)]
            rw [xs_op q0 q1 q2]
            simp (disch := omega) only [xB_s, xB2_s, xGet_s, xPut_s, xAld_s, xAst_s, xIf_t, xBool_s, l0, l1, l2, l3, l4, l5, l6, l7, l8, l9, l10, l11, l12, l13, l15, l16, l17, l19, l20, l25, l27, l30, l31, l32, l33, l39, l40, l60, l61, l99, l100, l120, l256, l999, l1999, l99999, lm, nI_add, pk_mul, nI_leI, nI_ltI, nI_eq, wuS_1, wuS_2, wuA_1, wuA_21, wuA_22, nI_m1, m1_nI, nIlt_m1, m1lt_nI, Nat.reduceEqDiff, Nat.reduceAdd, Nat.reduceMul, Nat.reduceSub, Nat.reduceLT, Nat.reduceLeDiff, reduceIte, if_true, if_false, Bool.false_eq_true, Nat.add_zero, Nat.zero_add, ne_eq, not_false_eq_true, not_true_eq_false, Nat.not_lt_zero, Nat.add_left_cancel_iff, Nat.add_right_cancel_iff, eq_self, upd_s, pk_sub, nI_pm, Nat.add_sub_cancel, List.length_cons, List.length_nil, Nat.add_eq_zero_iff, Nat.succ_ne_zero, and_false, false_and, xs_nn, x_joined g2]
            exact hk r.length _ (Nat.lt_succ_self _) ⟨bop s1.2 u v :: q, r, k + 1, _, rfl, rfl, by omega, by rw [List.length_cons]; omega, hr, g3, he, StA_push hs.2.2, hf.A (by decide)⟩
theorem x_give_s {o : wO} {w : wS} {vs : Nat → Int32} {s : List Op} (hn : oSn o = s.length) (hl : s.length ≤ 700) (hc : ∀ (j : Nat) (x : Op), s[j]? = some x → w.2.1 3001 j = xSt x) (hw : wfR 0 s) (hv : ∀ k, k < 7 → w.2.1 40 k = vs k) : wpO (L_X3_give_s0_x40 o w) (fun r => r.1 = evR vs s [] ∧ Fr [] [3002] w r.2) := by
  unfold L_X3_give_s0_x40 P_X3_give_s0_x40_4
  generalize hV : evR vs s [] = V
  refine wp_loop (fun n σ => ∃ (st : List Int32) (ops : List Op) (k : Nat) (w' : wS), σ = (nI st.length, nI k, w') ∧ n = ops.length ∧ k + ops.length = s.length ∧ st.length ≤ 64 ∧ (∀ (j : Nat) (x : Op), ops[j]? = some x → w.2.1 3001 (k + j) = xSt x) ∧ wfR st.length ops ∧ evR vs ops st = V ∧ StA (w'.2.1 3002) st ∧ Fr [] [3002] w w') ?_ 5000 s.length _ (by omega) ⟨[], s, 0, w, by rw [l0]; rfl, rfl, by omega, by decide, by simpa using hc, hw, hV, trivial, Fr.refl⟩
  rintro n _ kk ⟨st, ops, k, w', rfl, rfl, hlen, h64, hc, hw, he, hs, hf⟩ hk
  have hA : w'.2.1 3001 = w.2.1 3001 := hf.2.1 3001 (by decide)
  have hB : w'.2.1 40 = w.2.1 40 := hf.2.1 40 (by decide)
  show wpO (B_X3_give_s0_x40_4 o (fun x2 x3 w => kk (x2, x3, w)) _ (nI st.length) (nI k) w') _
  unfold B_X3_give_s0_x40_4
  rw [ofN, hn]
  cases ops with
  | nil =>
    rw [List.length_nil] at hlen
    cases st with
    | nil => exact absurd hw Nat.zero_ne_one
    | cons v q =>
      have hq : q = [] := List.length_eq_zero_iff.mp (Nat.succ.inj hw)
      subst hq
      rw [evR_nil] at he
      have h0 : w'.2.1 3002 0 = v := hs.1
      simp (disch := omega) only [xB_s, xB2_s, xGet_s, xPut_s, xAld_s, xAst_s, xIf_t, xBool_s, l0, l1, l2, l3, l4, l5, l6, l7, l8, l9, l10, l11, l12, l13, l15, l16, l17, l19, l20, l25, l27, l30, l31, l32, l33, l39, l40, l60, l61, l99, l100, l120, l256, l999, l1999, l99999, lm, nI_add, pk_mul, nI_leI, nI_ltI, nI_eq, wuS_1, wuS_2, wuA_1, wuA_21, wuA_22, nI_m1, m1_nI, nIlt_m1, m1lt_nI, Nat.reduceEqDiff, Nat.reduceAdd, Nat.reduceMul, Nat.reduceSub, Nat.reduceLT, Nat.reduceLeDiff, reduceIte, if_true, if_false, Bool.false_eq_true, Nat.add_zero, Nat.zero_add, ne_eq, not_false_eq_true, not_true_eq_false, Nat.not_lt_zero, Nat.add_left_cancel_iff, Nat.add_right_cancel_iff, eq_self, upd_s, pk_sub, nI_pm, Nat.add_sub_cancel, List.length_cons, List.length_nil, Nat.add_eq_zero_iff, Nat.succ_ne_zero, and_false, false_and, show (s.length ≤ k) = True from eq_true (by omega), h0, he]
      exact wp_some ⟨rfl, hf⟩
  | cons s1 r =>
    rw [List.length_cons] at hlen
    have hx := hc 0 s1 rfl
    rw [Nat.add_zero] at hx
    have hr : ∀ (j : Nat) (x : Op), r[j]? = some x → w.2.1 3001 (k + 1 + j) = xSt x := fun j x hj => by
      have := hc (j + 1) x (by simpa using hj)
      rw [show k + 1 + j = k + (j + 1) by omega]
      exact this
    unfold wfR at hw
    by_cases q0 : s1.1 = 0
    · rw [if_pos q0] at hw
      obtain ⟨g1, g2, g3⟩ := hw
      rw [evR_num q0] at he
      simp (disch := omega) only [xB_s, xB2_s, xGet_s, xPut_s, xAld_s, xAst_s, xIf_t, xBool_s, l0, l1, l2, l3, l4, l5, l6, l7, l8, l9, l10, l11, l12, l13, l15, l16, l17, l19, l20, l25, l27, l30, l31, l32, l33, l39, l40, l60, l61, l99, l100, l120, l256, l999, l1999, l99999, lm, nI_add, pk_mul, nI_leI, nI_ltI, nI_eq, wuS_1, wuS_2, wuA_1, wuA_21, wuA_22, nI_m1, m1_nI, nIlt_m1, m1lt_nI, Nat.reduceEqDiff, Nat.reduceAdd, Nat.reduceMul, Nat.reduceSub, Nat.reduceLT, Nat.reduceLeDiff, reduceIte, if_true, if_false, Bool.false_eq_true, Nat.add_zero, Nat.zero_add, ne_eq, not_false_eq_true, not_true_eq_false, Nat.not_lt_zero, Nat.add_left_cancel_iff, Nat.add_right_cancel_iff, eq_self, upd_s, pk_sub, nI_pm, Nat.add_sub_cancel, List.length_cons, List.length_nil, Nat.add_eq_zero_iff, Nat.succ_ne_zero, and_false, false_and, show (s.length ≤ k) = False from eq_false (by omega), hA, hx, xs_lt (Or.inl ⟨q0, g2⟩), show (64 ≤ st.length) = False from eq_false (by omega), show (64 : Int32) = nI 64 by decide, J_X3_give_s0_x40_55, J_X3_give_s0_x40_136]
      rw [xs_num q0]
      simp (disch := omega) only [xB_s, xB2_s, xGet_s, xPut_s, xAld_s, xAst_s, xIf_t, xBool_s, l0, l1, l2, l3, l4, l5, l6, l7, l8, l9, l10, l11, l12, l13, l15, l16, l17, l19, l20, l25, l27, l30, l31, l32, l33, l39, l40, l60, l61, l99, l100, l120, l256, l999, l1999, l99999, lm, nI_add, pk_mul, nI_leI, nI_ltI, nI_eq, wuS_1, wuS_2, wuA_1, wuA_21, wuA_22, nI_m1, m1_nI, nIlt_m1, m1lt_nI, Nat.reduceEqDiff, Nat.reduceAdd, Nat.reduceMul, Nat.reduceSub, Nat.reduceLT, Nat.reduceLeDiff, reduceIte, if_true, if_false, Bool.false_eq_true, Nat.add_zero, Nat.zero_add, ne_eq, not_false_eq_true, not_true_eq_false, Nat.not_lt_zero, Nat.add_left_cancel_iff, Nat.add_right_cancel_iff, eq_self, upd_s, pk_sub, nI_pm, Nat.add_sub_cancel, List.length_cons, List.length_nil, Nat.add_eq_zero_iff, Nat.succ_ne_zero, and_false, false_and]
      exact hk r.length _ (Nat.lt_succ_self _) ⟨nI s1.2 :: st, r, k + 1, _, rfl, rfl, by omega, g1, hr, g3, he, StA_push hs, hf.A (by decide)⟩
    · rw [if_neg q0] at hw
      by_cases q1 : s1.1 = 1
      · rw [if_pos q1] at hw
        obtain ⟨g1, g2, g3⟩ := hw
        rw [evR_val q0 q1] at he
        simp (disch := omega) only [xB_s, xB2_s, xGet_s, xPut_s, xAld_s, xAst_s, xIf_t, xBool_s, l0, l1, l2, l3, l4, l5, l6, l7, l8, l9, l10, l11, l12, l13, l15, l16, l17, l19, l20, l25, l27, l30, l31, l32, l33, l39, l40, l60, l61, l99, l100, l120, l256, l999, l1999, l99999, lm, nI_add, pk_mul, nI_leI, nI_ltI, nI_eq, wuS_1, wuS_2, wuA_1, wuA_21, wuA_22, nI_m1, m1_nI, nIlt_m1, m1lt_nI, Nat.reduceEqDiff, Nat.reduceAdd, Nat.reduceMul, Nat.reduceSub, Nat.reduceLT, Nat.reduceLeDiff, reduceIte, if_true, if_false, Bool.false_eq_true, Nat.add_zero, Nat.zero_add, ne_eq, not_false_eq_true, not_true_eq_false, Nat.not_lt_zero, Nat.add_left_cancel_iff, Nat.add_right_cancel_iff, eq_self, upd_s, pk_sub, nI_pm, Nat.add_sub_cancel, List.length_cons, List.length_nil, Nat.add_eq_zero_iff, Nat.succ_ne_zero, and_false, false_and, show (s.length ≤ k) = False from eq_false (by omega), hA, hB, hx, xs_lt (Or.inr ⟨q1, g2⟩), (xs_neg q1 g2).1, (xs_neg q1 g2).2, hv _ g2, show (64 ≤ st.length) = False from eq_false (by omega), show (64 : Int32) = nI 64 by decide, J_X3_give_s0_x40_55, J_X3_give_s0_x40_136]
        exact hk r.length _ (Nat.lt_succ_self _) ⟨vs s1.2 :: st, r, k + 1, _, rfl, rfl, by omega, g1, hr, g3, he, StA_push hs, hf.A (by decide)⟩
      · rw [if_neg q1] at hw
        by_cases q2 : s1.1 = 2
        · rw [if_pos q2] at hw
          cases st with
          | nil => exact absurd hw.1 (by decide)
          | cons v q =>
            rw [evR_not q0 q1 q2] at he
            have hq : w'.2.1 3002 q.length = v := hs.1
            have hx2 : q.length + 1 ≤ 64 := h64
            simp (disch := omega) only [xB_s, xB2_s, xGet_s, xPut_s, xAld_s, xAst_s, xIf_t, xBool_s, l0, l1, l2, l3, l4, l5, l6, l7, l8, l9, l10, l11, l12, l13, l15, l16, l17, l19, l20, l25, l27, l30, l31, l32, l33, l39, l40, l60, l61, l99, l100, l120, l256, l999, l1999, l99999, lm, nI_add, pk_mul, nI_leI, nI_ltI, nI_eq, wuS_1, wuS_2, wuA_1, wuA_21, wuA_22, nI_m1, m1_nI, nIlt_m1, m1lt_nI, Nat.reduceEqDiff, Nat.reduceAdd, Nat.reduceMul, Nat.reduceSub, Nat.reduceLT, Nat.reduceLeDiff, reduceIte, if_true, if_false, Bool.false_eq_true, Nat.add_zero, Nat.zero_add, ne_eq, not_false_eq_true, not_true_eq_false, Nat.not_lt_zero, Nat.add_left_cancel_iff, Nat.add_right_cancel_iff, eq_self, upd_s, pk_sub, nI_pm, Nat.add_sub_cancel, List.length_cons, List.length_nil, Nat.add_eq_zero_iff, Nat.succ_ne_zero, and_false, false_and, show (s.length ≤ k) = False from eq_false (by omega), hA, hx, xs_lt' q0 q1, hq, J_X3_give_s0_x40_97, J_X3_give_s0_x40_136, show (q.length + 1 < 1) = False from eq_false (by omega)]
            rw [xs_not q2]
            simp (disch := omega) only [xB_s, xB2_s, xGet_s, xPut_s, xAld_s, xAst_s, xIf_t, xBool_s, l0, l1, l2, l3, l4, l5, l6, l7, l8, l9, l10, l11, l12, l13, l15, l16, l17, l19, l20, l25, l27, l30, l31, l32, l33, l39, l40, l60, l61, l99, l100, l120, l256, l999, l1999, l99999, lm, nI_add, pk_mul, nI_leI, nI_ltI, nI_eq, wuS_1, wuS_2, wuA_1, wuA_21, wuA_22, nI_m1, m1_nI, nIlt_m1, m1lt_nI, Nat.reduceEqDiff, Nat.reduceAdd, Nat.reduceMul, Nat.reduceSub, Nat.reduceLT, Nat.reduceLeDiff, reduceIte, if_true, if_false, Bool.false_eq_true, Nat.add_zero, Nat.zero_add, ne_eq, not_false_eq_true, not_true_eq_false, Nat.not_lt_zero, Nat.add_left_cancel_iff, Nat.add_right_cancel_iff, eq_self, upd_s, pk_sub, nI_pm, Nat.add_sub_cancel, List.length_cons, List.length_nil, Nat.add_eq_zero_iff, Nat.succ_ne_zero, and_false, false_and]
            by_cases hz : v = nI 0
            · rw [if_pos hz] at he ⊢
              exact hk r.length _ (Nat.lt_succ_self _) ⟨nI 1 :: q, r, k + 1, _, rfl, rfl, by omega, h64, hr, hw.2, he, StA_push hs.2, hf.A (by decide)⟩
            · rw [if_neg hz] at he ⊢
              exact hk r.length _ (Nat.lt_succ_self _) ⟨nI 0 :: q, r, k + 1, _, rfl, rfl, by omega, h64, hr, hw.2, he, StA_push hs.2, hf.A (by decide)⟩
        · rw [if_neg q2] at hw
          obtain ⟨g1, g2, g3⟩ := hw
          match st, g1, hs, he, h64, g3 with
          | [], g1, _, _, _, _ => exact absurd g1 (Nat.not_succ_le_zero 1)
          | [v], g1, _, _, _, _ => exact absurd g1 (show ¬ 2 ≤ 1 by decide)
          | v :: u :: q, g1, hs, he, h64, g3 =>
            rw [evR_op q0 q1 q2] at he
            have hq : w'.2.1 3002 (q.length + 1) = v := hs.1
            have hq2 : w'.2.1 3002 q.length = u := hs.2.1
            have hx2 : q.length + 1 + 1 ≤ 64 := h64
            simp (disch := omega) only [xB_s, xB2_s, xGet_s, xPut_s, xAld_s, xAst_s, xIf_t, xBool_s, l0, l1, l2, l3, l4, l5, l6, l7, l8, l9, l10, l11, l12, l13, l15, l16, l17, l19, l20, l25, l27, l30, l31, l32, l33, l39, l40, l60, l61, l99, l100, l120, l256, l999, l1999, l99999, lm, nI_add, pk_mul, nI_leI, nI_ltI, nI_eq, wuS_1, wuS_2, wuA_1, wuA_21, wuA_22, nI_m1, m1_nI, nIlt_m1, m1lt_nI, Nat.reduceEqDiff, Nat.reduceAdd, Nat.reduceMul, Nat.reduceSub, Nat.reduceLT, Nat.reduceLeDiff, reduceIte, if_true, if_false, Bool.false_eq_true, Nat.add_zero, Nat.zero_add, ne_eq, not_false_eq_true, not_true_eq_false, Nat.not_lt_zero, Nat.add_left_cancel_iff, Nat.add_right_cancel_iff, eq_self, upd_s, pk_sub, nI_pm, Nat.add_sub_cancel, List.length_cons, List.length_nil, Nat.add_eq_zero_iff, Nat.succ_ne_zero, and_false, false_and, show (s.length ≤ k) = False from eq_false (by omega), hA, hx, xs_lt' q0 q1, hq, hq2, J_X3_give_s0_x40_136, show (q.length + 1 + 1 < 2) = False from eq_false (by omega)]
            rw [xs_op q0 q1 q2]
            simp (disch := omega) only [xB_s, xB2_s, xGet_s, xPut_s, xAld_s, xAst_s, xIf_t, xBool_s, l0, l1, l2, l3, l4, l5, l6, l7, l8, l9, l10, l11, l12, l13, l15, l16, l17, l19, l20, l25, l27, l30, l31, l32, l33, l39, l40, l60, l61, l99, l100, l120, l256, l999, l1999, l99999, lm, nI_add, pk_mul, nI_leI, nI_ltI, nI_eq, wuS_1, wuS_2, wuA_1, wuA_21, wuA_22, nI_m1, m1_nI, nIlt_m1, m1lt_nI, Nat.reduceEqDiff, Nat.reduceAdd, Nat.reduceMul, Nat.reduceSub, Nat.reduceLT, Nat.reduceLeDiff, reduceIte, if_true, if_false, Bool.false_eq_true, Nat.add_zero, Nat.zero_add, ne_eq, not_false_eq_true, not_true_eq_false, Nat.not_lt_zero, Nat.add_left_cancel_iff, Nat.add_right_cancel_iff, eq_self, upd_s, pk_sub, nI_pm, Nat.add_sub_cancel, List.length_cons, List.length_nil, Nat.add_eq_zero_iff, Nat.succ_ne_zero, and_false, false_and, xs_nn, x_joined g2]
            exact hk r.length _ (Nat.lt_succ_self _) ⟨bop s1.2 u v :: q, r, k + 1, _, rfl, rfl, by omega, by rw [List.length_cons]; omega, hr, g3, he, StA_push hs.2.2, hf.A (by decide)⟩
