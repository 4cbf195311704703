section
/-! ===== delay ===== -/
def tie (f : Nat → Nat) (p q : Nat) : Nat := if f p < f q ∨ (f p = f q ∧ p < q) then 0 else 1
def dlN (can : Nat → Bool) (c f : Nat → Nat) (p : Nat) : Nat → Nat
  | 0 => 0
  | q + 1 => if q ≠ p ∧ can q = true then max (dlN can c f p q) (c q + tie f p q - c p) else dlN can c f p q
theorem dlN_n {can : Nat → Bool} {c f : Nat → Nat} {p q : Nat} (h : ¬ (q ≠ p ∧ can q = true)) : dlN can c f p (q + 1) = dlN can c f p q := by
  show (if q ≠ p ∧ can q = true then _ else _) = _
  rw [if_neg h]
theorem dlN_y {can : Nat → Bool} {c f : Nat → Nat} {p q : Nat} (h : q ≠ p ∧ can q = true) : dlN can c f p (q + 1) = max (dlN can c f p q) (c q + tie f p q - c p) := by
  show (if q ≠ p ∧ can q = true then _ else _) = _
  rw [if_pos h]
theorem tie_le (f : Nat → Nat) (p q : Nat) : tie f p q ≤ 1 := by unfold tie; split <;> omega
theorem dlN_iff {can : Nat → Bool} {c f : Nat → Nat} {p k : Nat} : ∀ {n : Nat}, dlN can c f p n ≤ k ↔ ∀ q, q < n → can q = true → q ≠ p → c q + tie f p q ≤ c p + k
  | 0 => ⟨fun _ q hq => absurd hq (Nat.not_lt_zero q), fun _ => Nat.zero_le k⟩
  | n + 1 => by
    have ih := dlN_iff (can := can) (c := c) (f := f) (p := p) (k := k) (n := n)
    by_cases h : n ≠ p ∧ can n = true
    · rw [dlN_y h]
      refine ⟨fun g q hq hc hne => ?_, fun g => ?_⟩
      · by_cases e : q = n
        · rw [e]; omega
        · exact ih.mp (by omega) q (by omega) hc hne
      · have g1 := ih.mpr (fun q hq => g q (by omega))
        have g2 := g n (by omega) h.2 h.1
        omega
    · rw [dlN_n h]
      refine ⟨fun g q hq hc hne => ?_, fun g => ih.mpr (fun q hq => g q (by omega))⟩
      by_cases e : q = n
      · rw [e] at hc hne; exact absurd ⟨hne, hc⟩ h
      · exact ih.mp g q (by omega) hc hne
/-- one is delayed at one duty -/
def exD (d0 p0 k : Nat) : Ex := fun d p => if p = p0 ∧ d = d0 then k else 0
theorem turn_ex {t : Tn} {ex ex' : Ex} {y : Yw} {d : Nat} (h : ∀ p, ex d p = ex' d p) : turn t ex y d = turn t ex' y d := by
  have hm : ∀ p, mins t ex y d p = mins t ex' y d p := fun p => by unfold mins; rw [h p]
  have hc : cmN t ex y d = cmN t ex' y d := by
    funext p
    unfold cmN; rw [hm p]
  have hl : ∀ n, ltL t ex y d n = ltL t ex' y d n := fun n => by
    induction n with
    | zero => rfl
    | succ n ih => unfold ltL; rw [ih, hm n]
  have hs : lst t ex y d = lst t ex' y d := by unfold lst; rw [hc]
  unfold turn yCome
  rw [hs, hl]
theorem turns_ex {t : Tn} {ex ex' : Ex} {y : Yw} : ∀ {d : Nat}, (∀ e p, e < d → ex e p = ex' e p) → turns t ex y d = turns t ex' y d
  | 0, _ => rfl
  | d + 1, h => by
    show turn t ex (turns t ex y d) d = turn t ex' (turns t ex' y d) d
    rw [turns_ex (d := d) (fun e p he => h e p (by omega)), turn_ex (fun p => h d p (by omega))]
theorem lst_exD {t : Tn} {y : Yw} {d p k : Nat} (hp : p < tP t) (hc : canL t (turns t (exC 0) y d) p = true) : lstS t (exD d p k) y d = some p ↔ dlN (canL t (turns t (exC 0) y d)) (cmN t (exC 0) (turns t (exC 0) y d) d) (fun p => far t p d) p (tP t) ≤ k := by
  unfold lstS
  rw [turns_ex (ex' := exC 0) (fun e q he => by unfold exD exC; rw [if_neg (by omega)])]
  generalize turns t (exC 0) y d = yd at *
  unfold lst
  rw [lstW_is hp hc, dlN_iff]
  have e : ∀ q, cmN t (exD d p k) yd d q = cmN t (exC 0) yd d q + if q = p then k else 0 := fun q => by
    have e0 : exD d p k d q = if q = p then k else 0 := by
      unfold exD
      by_cases z : q = p
      · rw [if_pos z, if_pos ⟨z, rfl⟩]
      · rw [if_neg z, if_neg (fun h => z h.1)]
    unfold cmN mins
    rw [e0]
    show _ = yE yd d + (_ + 0) + _
    omega
  have g : ∀ q, q ≠ p → (ltr (cmN t (exD d p k) yd d) (fun p => far t p d) p q = true ↔ cmN t (exC 0) yd d q + tie (fun p => far t p d) p q ≤ cmN t (exC 0) yd d p + k) := fun q hq => by
    rw [ltr_iff, e p, e q, if_pos rfl, if_neg hq]
    unfold tie
    split <;> rename_i z
    · refine ⟨fun h => by omega, fun h => ?_⟩
      rcases Nat.lt_or_ge (cmN t (exC 0) yd d q + 0) (cmN t (exC 0) yd d p + k) with z2 | z2
      · exact Or.inl z2
      · exact Or.inr ⟨by omega, z⟩
    · refine ⟨fun h => ?_, fun h => Or.inl (by omega)⟩
      rcases h with h | h
      · omega
      · exact absurd h.2 z
  exact ⟨fun h q h1 h2 h3 => (g q h3).mp (h q h1 h2 h3), fun h q h1 h2 h3 => (g q h3).mpr (h q h1 h2 h3)⟩
theorem xMax_sub2 {a b c : Nat} (ha : a < 2 ^ 30) (hb : b < 2 ^ 30) (hc : c < 2 ^ 30) : xMax (nI a) (nI b - nI c) = nI (max a (b - c)) := by
  show (if nI a < nI b - nI c then nI b - nI c else nI a) = _
  rcases Nat.lt_or_ge b c with h | h
  · rw [if_neg (fun q => by
      have := Int32.lt_iff_toInt_lt.mp q
      rw [nI_toInt (by omega), pk_sub_toInt hb hc] at this
      omega), Nat.max_eq_left (by omega)]
  · rw [pk_sub h]
    by_cases q : a < b - c
    · rw [if_pos ((nI_ltI (by omega) (by omega)).mpr q), Nat.max_eq_right (by omega)]
    · rw [if_neg (fun z => q ((nI_ltI (by omega) (by omega)).mp z)), Nat.max_eq_left (by omega)]
theorem dlN_le {can : Nat → Bool} {c f : Nat → Nat} {p N : Nat} (h : ∀ q, c q ≤ N) : ∀ n, dlN can c f p n ≤ N + 1
  | 0 => Nat.zero_le _
  | n + 1 => by
    have ih := dlN_le (can := can) (c := c) (f := f) (p := p) h n
    have h1 := h n
    have h2 := tie_le f p n
    show (if n ≠ p ∧ can n = true then _ else _) ≤ _
    split <;> omega
def dlA (n : Nat) : Int32 := if n ≤ 99 then nI n else mI
theorem x_delay {t : Tn} {y : Yw} {ex : Ex} {o : wO} {w : wS} {d p : Nat} (T : XC t o w) (T' : XT t o w) (ho : tOk t) (h35 : ∀ p, p < tP t → w.2.1 35 p = oI (cam t ex y d p)) (h36 : ∀ p, p < tP t → w.2.1 36 p = nI (far t p d)) (hN : ∀ p, cmN t ex y d p ≤ 2000) (hp : p < tP t) (hc : canL t y p = true) : wpO (P_X9_delay_32 o (fun z15 w16 => if z15 ≤ nI 99 then J_X9_delay_119 o z15 w16 else J_X9_delay_119 o mI w16) 5000 (nI p) (nI 0) (nI 0) w) (fun r => r = (.inl (dlA (dlN (canL t y) (cmN t ex y d) (fun p => far t p d) p (tP t))), w)) := by
  have b1 := ho.1
  have r9 := xRef_t T'.2.1
  have hD := dlN_le (can := canL t y) (f := fun p => far t p d) (p := p) hN
  have ep := h35 p hp
  rw [cam_t (canL_iff.mp hc).1] at ep
  have hNp := hN p
  unfold P_X9_delay_32
  refine wp_for (tP t) (fun k s => s = (nI p, nI (dlN (canL t y) (cmN t ex y d) (fun p => far t p d) p k), nI k, w)) ?_ (i := 0) (by omega) (by omega) rfl
  rintro k _ kk hk rfl hkk
  show wpO (B_X9_delay_32 o (fun x1 x4 x5 w => kk (x1, x4, x5, w)) _ (nI p) (nI _) (nI k) w) _
  unfold B_X9_delay_32 J_X9_delay_100 J_X9_delay_74 J_X9_delay_100
  have hDk := hD k
  by_cases hlt : k < tP t
  · have hNk := hN k
    have e2 := x_canBeLast T ho hlt (h35 k hlt) (by omega)
    have el := x_leads (o := o) ho hp hlt (h36 p hp) (h36 k hlt)
    simp (disch := omega) only [xB_s, xB2_s, xGet_s, xPut_s, xAld_s, xAst_s, xIf_t, xBool_s, l0, l1, l2, l3, l4, l5, l6, l7, l8, l9, l10, l11, l12, l13, l15, l16, l17, l19, l20, l25, l27, l30, l31, l32, l33, l39, l40, l60, l61, l99, l100, l120, l256, l999, l1999, l99999, lm, nI_add, pk_mul, nI_leI, nI_ltI, nI_eq, wuS_1, wuS_2, wuA_1, wuA_21, wuA_22, nI_m1, m1_nI, nIlt_m1, m1lt_nI, Nat.reduceEqDiff, Nat.reduceAdd, Nat.reduceMul, Nat.reduceSub, Nat.reduceLT, Nat.reduceLeDiff, reduceIte, if_true, if_false, Bool.false_eq_true, Nat.add_zero, Nat.zero_add, ne_eq, not_false_eq_true, not_true_eq_false, Nat.not_lt_zero, Nat.add_left_cancel_iff, Nat.add_right_cancel_iff, eq_self, upd_s, pk_sub, nI_pm, Nat.add_sub_cancel, List.length_cons, List.length_nil, Nat.add_eq_zero_iff, Nat.succ_ne_zero, and_false, false_and, l14, l18, l21, l23, l24, l26, l28, l29, l34, l35, l36, l41, l42, l43, l45, l47, l48, l49, l50, l51, l52, l57, l58, l59, l62, l63, l64, l96, l97, l98, l101, l102, l103, l104, l105, l106, l107, l108, l109, l110, l111, l112, l113, l114, l115, l116, l117, l118, l119, l121, l122, l127, l255, l700, l1320, l1000000, r9, T'.1.1, show (tP t ≤ k) = False from eq_false (by omega), e2]
    by_cases hkp : k = p
    · rw [if_pos hkp]
      exact hkk hlt _ (by rw [dlN_n (fun z => z.1 hkp)])
    · rw [if_neg hkp]
      cases hck : canL t y k with
      | false =>
        simp (disch := omega) only [xB_s, xB2_s, xGet_s, xPut_s, xAld_s, xAst_s, xIf_t, xBool_s, l0, l1, l2, l3, l4, l5, l6, l7, l8, l9, l10, l11, l12, l13, l15, l16, l17, l19, l20, l25, l27, l30, l31, l32, l33, l39, l40, l60, l61, l99, l100, l120, l256, l999, l1999, l99999, lm, nI_add, pk_mul, nI_leI, nI_ltI, nI_eq, wuS_1, wuS_2, wuA_1, wuA_21, wuA_22, nI_m1, m1_nI, nIlt_m1, m1lt_nI, Nat.reduceEqDiff, Nat.reduceAdd, Nat.reduceMul, Nat.reduceSub, Nat.reduceLT, Nat.reduceLeDiff, reduceIte, if_true, if_false, Bool.false_eq_true, Nat.add_zero, Nat.zero_add, ne_eq, not_false_eq_true, not_true_eq_false, Nat.not_lt_zero, Nat.add_left_cancel_iff, Nat.add_right_cancel_iff, eq_self, upd_s, pk_sub, nI_pm, Nat.add_sub_cancel, List.length_cons, List.length_nil, Nat.add_eq_zero_iff, Nat.succ_ne_zero, and_false, false_and, l14, l18, l21, l23, l24, l26, l28, l29, l34, l35, l36, l41, l42, l43, l45, l47, l48, l49, l50, l51, l52, l57, l58, l59, l62, l63, l64, l96, l97, l98, l101, l102, l103, l104, l105, l106, l107, l108, l109, l110, l111, l112, l113, l114, l115, l116, l117, l118, l119, l121, l122, l127, l255, l700, l1320, l1000000, Bool.toNat_false]
        exact hkk hlt _ (by rw [dlN_n (fun z => by rw [hck] at z; exact Bool.noConfusion z.2)])
      | true =>
        have ek := h35 k hlt
        rw [cam_t (canL_iff.mp hck).1] at ek
        have hm := dlN_y (can := canL t y) (c := cmN t ex y d) (f := fun p => far t p d) ⟨hkp, hck⟩
        simp (disch := omega) only [xB_s, xB2_s, xGet_s, xPut_s, xAld_s, xAst_s, xIf_t, xBool_s, l0, l1, l2, l3, l4, l5, l6, l7, l8, l9, l10, l11, l12, l13, l15, l16, l17, l19, l20, l25, l27, l30, l31, l32, l33, l39, l40, l60, l61, l99, l100, l120, l256, l999, l1999, l99999, lm, nI_add, pk_mul, nI_leI, nI_ltI, nI_eq, wuS_1, wuS_2, wuA_1, wuA_21, wuA_22, nI_m1, m1_nI, nIlt_m1, m1lt_nI, Nat.reduceEqDiff, Nat.reduceAdd, Nat.reduceMul, Nat.reduceSub, Nat.reduceLT, Nat.reduceLeDiff, reduceIte, if_true, if_false, Bool.false_eq_true, Nat.add_zero, Nat.zero_add, ne_eq, not_false_eq_true, not_true_eq_false, Nat.not_lt_zero, Nat.add_left_cancel_iff, Nat.add_right_cancel_iff, eq_self, upd_s, pk_sub, nI_pm, Nat.add_sub_cancel, List.length_cons, List.length_nil, Nat.add_eq_zero_iff, Nat.succ_ne_zero, and_false, false_and, l14, l18, l21, l23, l24, l26, l28, l29, l34, l35, l36, l41, l42, l43, l45, l47, l48, l49, l50, l51, l52, l57, l58, l59, l62, l63, l64, l96, l97, l98, l101, l102, l103, l104, l105, l106, l107, l108, l109, l110, l111, l112, l113, l114, l115, l116, l117, l118, l119, l121, l122, l127, l255, l700, l1320, l1000000, Bool.toNat_true, el, ek, ep, oI_s]
        cases g3 : (decide (far t p d < far t k d) || (decide (far t p d = far t k d) && decide (p < k))) with
        | false =>
          have ht : tie (fun p => far t p d) p k = 1 := by
            unfold tie
            rw [if_neg]
            intro z
            have : (decide (far t p d < far t k d) || (decide (far t p d = far t k d) && decide (p < k))) = true := by
              simp only [Bool.or_eq_true, Bool.and_eq_true, decide_eq_true_eq]; exact z
            rw [g3] at this; exact Bool.noConfusion this
          have em := xMax_sub2 (a := dlN (canL t y) (cmN t ex y d) (fun p => far t p d) p k) (b := cmN t ex y d k + 1) (c := cmN t ex y d p) (by omega) (by omega) (by omega)
          simp (disch := omega) only [xB_s, xB2_s, xGet_s, xPut_s, xAld_s, xAst_s, xIf_t, xBool_s, l0, l1, l2, l3, l4, l5, l6, l7, l8, l9, l10, l11, l12, l13, l15, l16, l17, l19, l20, l25, l27, l30, l31, l32, l33, l39, l40, l60, l61, l99, l100, l120, l256, l999, l1999, l99999, lm, nI_add, pk_mul, nI_leI, nI_ltI, nI_eq, wuS_1, wuS_2, wuA_1, wuA_21, wuA_22, nI_m1, m1_nI, nIlt_m1, m1lt_nI, Nat.reduceEqDiff, Nat.reduceAdd, Nat.reduceMul, Nat.reduceSub, Nat.reduceLT, Nat.reduceLeDiff, reduceIte, if_true, if_false, Bool.false_eq_true, Nat.add_zero, Nat.zero_add, ne_eq, not_false_eq_true, not_true_eq_false, Nat.not_lt_zero, Nat.add_left_cancel_iff, Nat.add_right_cancel_iff, eq_self, upd_s, pk_sub, nI_pm, Nat.add_sub_cancel, List.length_cons, List.length_nil, Nat.add_eq_zero_iff, Nat.succ_ne_zero, and_false, false_and, l14, l18, l21, l23, l24, l26, l28, l29, l34, l35, l36, l41, l42, l43, l45, l47, l48, l49, l50, l51, l52, l57, l58, l59, l62, l63, l64, l96, l97, l98, l101, l102, l103, l104, l105, l106, l107, l108, l109, l110, l111, l112, l113, l114, l115, l116, l117, l118, l119, l121, l122, l127, l255, l700, l1320, l1000000, Bool.toNat_false]
          rw [em]
          exact hkk hlt _ (by rw [hm, ht])
        | true =>
          have ht : tie (fun p => far t p d) p k = 0 := by
            unfold tie
            simp only [Bool.or_eq_true, Bool.and_eq_true, decide_eq_true_eq] at g3
            rw [if_pos g3]
          have em := xMax_sub2 (a := dlN (canL t y) (cmN t ex y d) (fun p => far t p d) p k) (b := cmN t ex y d k) (c := cmN t ex y d p) (by omega) (by omega) (by omega)
          simp (disch := omega) only [xB_s, xB2_s, xGet_s, xPut_s, xAld_s, xAst_s, xIf_t, xBool_s, l0, l1, l2, l3, l4, l5, l6, l7, l8, l9, l10, l11, l12, l13, l15, l16, l17, l19, l20, l25, l27, l30, l31, l32, l33, l39, l40, l60, l61, l99, l100, l120, l256, l999, l1999, l99999, lm, nI_add, pk_mul, nI_leI, nI_ltI, nI_eq, wuS_1, wuS_2, wuA_1, wuA_21, wuA_22, nI_m1, m1_nI, nIlt_m1, m1lt_nI, Nat.reduceEqDiff, Nat.reduceAdd, Nat.reduceMul, Nat.reduceSub, Nat.reduceLT, Nat.reduceLeDiff, reduceIte, if_true, if_false, Bool.false_eq_true, Nat.add_zero, Nat.zero_add, ne_eq, not_false_eq_true, not_true_eq_false, Nat.not_lt_zero, Nat.add_left_cancel_iff, Nat.add_right_cancel_iff, eq_self, upd_s, pk_sub, nI_pm, Nat.add_sub_cancel, List.length_cons, List.length_nil, Nat.add_eq_zero_iff, Nat.succ_ne_zero, and_false, false_and, l14, l18, l21, l23, l24, l26, l28, l29, l34, l35, l36, l41, l42, l43, l45, l47, l48, l49, l50, l51, l52, l57, l58, l59, l62, l63, l64, l96, l97, l98, l101, l102, l103, l104, l105, l106, l107, l108, l109, l110, l111, l112, l113, l114, l115, l116, l117, l118, l119, l121, l122, l127, l255, l700, l1320, l1000000, Bool.toNat_true, add_0]
          rw [em]
          exact hkk hlt _ (by rw [hm, ht]; rfl)
  · obtain rfl : k = tP t := by omega
    simp (disch := omega) only [xB_s, xB2_s, xGet_s, xPut_s, xAld_s, xAst_s, xIf_t, xBool_s, l0, l1, l2, l3, l4, l5, l6, l7, l8, l9, l10, l11, l12, l13, l15, l16, l17, l19, l20, l25, l27, l30, l31, l32, l33, l39, l40, l60, l61, l99, l100, l120, l256, l999, l1999, l99999, lm, nI_add, pk_mul, nI_leI, nI_ltI, nI_eq, wuS_1, wuS_2, wuA_1, wuA_21, wuA_22, nI_m1, m1_nI, nIlt_m1, m1lt_nI, Nat.reduceEqDiff, Nat.reduceAdd, Nat.reduceMul, Nat.reduceSub, Nat.reduceLT, Nat.reduceLeDiff, reduceIte, if_true, if_false, Bool.false_eq_true, Nat.add_zero, Nat.zero_add, ne_eq, not_false_eq_true, not_true_eq_false, Nat.not_lt_zero, Nat.add_left_cancel_iff, Nat.add_right_cancel_iff, eq_self, upd_s, pk_sub, nI_pm, Nat.add_sub_cancel, List.length_cons, List.length_nil, Nat.add_eq_zero_iff, Nat.succ_ne_zero, and_false, false_and, l14, l18, l21, l23, l24, l26, l28, l29, l34, l35, l36, l41, l42, l43, l45, l47, l48, l49, l50, l51, l52, l57, l58, l59, l62, l63, l64, l96, l97, l98, l101, l102, l103, l104, l105, l106, l107, l108, l109, l110, l111, l112, l113, l114, l115, l116, l117, l118, l119, l121, l122, l127, l255, l700, l1320, l1000000, r9, T'.1.1, Nat.le_refl, J_X9_delay_119]
    unfold dlA
    by_cases e : dlN (canL t y) (cmN t ex y d) (fun p => far t p d) p (tP t) ≤ 99
    · rw [if_pos e, if_pos e]
      exact wp_some rfl
    · rw [if_neg e, if_neg e]
      exact wp_some rfl
abbrev mKd : List Nat := [0, 49, 50, 51, 53, 54, 55, 62]
theorem TM.d {t : Tn} {w w' : wS} (h : TM t w) (f : Fr mKd mAs w w') : TM t w' := by
  unfold TM
  rw [f.1 1 (by decide), f.1 2 (by decide), f.1 3 (by decide), f.1 4 (by decide), f.1 5 (by decide), f.2.1 1 (by decide), f.2.1 2 (by decide), f.2.1 3 (by decide), f.2.1 4 (by decide), f.2.1 5 (by decide)]
  exact h
theorem m_delay {t : Tn} {y : Yw} {w : wS} {d p : Nat} (ho : tOk t) (hy : yOk t y) (hD : yD y ≤ 999) (T : TM t w) (Y : YM y (w.2.1 16) 0) (h52 : w.1 52 = nI 0) (h53 : w.1 53 = nI p) (h54 : w.1 54 = nI d) (h0 : w.1 0 = nI 0) (hp : p < tP t) (hd : d < tD t) (hc : canL t (turns t (exC 0) y d) p = true) {b0 : Nat} (hb0 : b0 ≤ 99) (h55 : w.1 55 = nI b0) : wpO (P_X10_delay_59 (fun z18 w19 => J_X10_delay_105 z18 w19) 5000 (nI p) (nI d) mI (nI 0) w) (fun r => r.1 = dlA (dlN (canL t (turns t (exC 0) y d)) (cmN t (exC 0) (turns t (exC 0) y d) d) (fun p => far t p d) p (tP t)) ∧ Fr mKd mAs w r.2 ∧ (∀ k, k < 33 → r.2.2.1 16 k = w.2.1 16 k) ∧ r.2.1 53 = mI ∧ r.2.1 0 = nI 0 ∧ ∃ b, b ≤ 99 ∧ r.2.1 55 = nI b) := by
  have b1 := ho.1
  have b2 := ho.2.1
  have hls := fun k => lst_exD (y := y) (d := d) (k := k) hp hc
  generalize hL : dlN (canL t (turns t (exC 0) y d)) (cmN t (exC 0) (turns t (exC 0) y d) d) (fun p => far t p d) p (tP t) = L at *
  unfold P_X10_delay_59
  refine wp_for 100 (fun k s => ∃ (w' : wS) (v : Int32), s = (nI p, nI d, v, nI k, w') ∧ ((v = mI ∧ k ≤ L) ∨ (v = nI L ∧ L < k)) ∧ Fr mKd mAs w w' ∧ (∀ k, k < 33 → w'.2.1 16 k = w.2.1 16 k) ∧ w'.1 53 = nI p ∧ w'.1 54 = nI d ∧ w'.1 0 = nI 0 ∧ ∃ b, b ≤ 99 ∧ w'.1 55 = nI b) ?_ (i := 0) (by omega) (by omega) ⟨w, mI, rfl, Or.inl ⟨rfl, Nat.zero_le _⟩, Fr.refl, fun _ _ => rfl, h53, h54, h0, b0, hb0, h55⟩
  rintro k _ kk hk ⟨w', v, rfl, hv, F, f16, f53, f54, f0, f55⟩ hkk
  show wpO (B_X10_delay_59 (fun x1 x2 x3 x4 w => kk (x1, x2, x3, x4, w)) _ (nI p) (nI d) v (nI k) w') _
  unfold B_X10_delay_59 J_X10_delay_98
  have fin : ∀ u, u = dlA L → wpO (J_X10_delay_105 u w') (fun r => r.1 = dlA L ∧ Fr mKd mAs w r.2 ∧ (∀ k, k < 33 → r.2.2.1 16 k = w.2.1 16 k) ∧ r.2.1 53 = mI ∧ r.2.1 0 = nI 0 ∧ ∃ b, b ≤ 99 ∧ r.2.1 55 = nI b) := by
    intro u hu
    unfold J_X10_delay_105
    simp (disch := omega) only [xB_s, xB2_s, xGet_s, xPut_s, xAld_s, xAst_s, xIf_t, xBool_s, l0, l1, l2, l3, l4, l5, l6, l7, l8, l9, l10, l11, l12, l13, l15, l16, l17, l19, l20, l25, l27, l30, l31, l32, l33, l39, l40, l60, l61, l99, l100, l120, l256, l999, l1999, l99999, lm, nI_add, pk_mul, nI_leI, nI_ltI, nI_eq, wuS_1, wuS_2, wuA_1, wuA_21, wuA_22, nI_m1, m1_nI, nIlt_m1, m1lt_nI, Nat.reduceEqDiff, Nat.reduceAdd, Nat.reduceMul, Nat.reduceSub, Nat.reduceLT, Nat.reduceLeDiff, reduceIte, if_true, if_false, Bool.false_eq_true, Nat.add_zero, Nat.zero_add, ne_eq, not_false_eq_true, not_true_eq_false, Nat.not_lt_zero, Nat.add_left_cancel_iff, Nat.add_right_cancel_iff, eq_self, upd_s, pk_sub, nI_pm, Nat.add_sub_cancel, List.length_cons, List.length_nil, Nat.add_eq_zero_iff, Nat.succ_ne_zero, and_false, false_and, l14, l18, l21, l23, l24, l26, l28, l29, l34, l35, l36, l41, l42, l43, l45, l47, l48, l49, l50, l51, l52, l57, l58, l59, l62, l63, l64, l96, l97, l98, l101, l102, l103, l104, l105, l106, l107, l108, l109, l110, l111, l112, l113, l114, l115, l116, l117, l118, l119, l121, l122, l127, l255, l700, l1320, l1000000]
    refine wp_some ⟨hu, F.S (by decide), f16, wuS_at, ?_, ?_⟩
    · show (wuS w' 53 mI).1 0 = nI 0
      rw [wuS_1, if_neg (by decide)]; exact f0
    · obtain ⟨b, hb, e⟩ := f55
      refine ⟨b, hb, ?_⟩
      show (wuS w' 53 mI).1 55 = nI b
      rw [wuS_1, if_neg (by decide)]; exact e
  rcases Nat.lt_or_ge 99 k with h99 | h99
  · simp (disch := omega) only [xB_s, xB2_s, xGet_s, xPut_s, xAld_s, xAst_s, xIf_t, xBool_s, l0, l1, l2, l3, l4, l5, l6, l7, l8, l9, l10, l11, l12, l13, l15, l16, l17, l19, l20, l25, l27, l30, l31, l32, l33, l39, l40, l60, l61, l99, l100, l120, l256, l999, l1999, l99999, lm, nI_add, pk_mul, nI_leI, nI_ltI, nI_eq, wuS_1, wuS_2, wuA_1, wuA_21, wuA_22, nI_m1, m1_nI, nIlt_m1, m1lt_nI, Nat.reduceEqDiff, Nat.reduceAdd, Nat.reduceMul, Nat.reduceSub, Nat.reduceLT, Nat.reduceLeDiff, reduceIte, if_true, if_false, Bool.false_eq_true, Nat.add_zero, Nat.zero_add, ne_eq, not_false_eq_true, not_true_eq_false, Nat.not_lt_zero, Nat.add_left_cancel_iff, Nat.add_right_cancel_iff, eq_self, upd_s, pk_sub, nI_pm, Nat.add_sub_cancel, List.length_cons, List.length_nil, Nat.add_eq_zero_iff, Nat.succ_ne_zero, and_false, false_and, l14, l18, l21, l23, l24, l26, l28, l29, l34, l35, l36, l41, l42, l43, l45, l47, l48, l49, l50, l51, l52, l57, l58, l59, l62, l63, l64, l96, l97, l98, l101, l102, l103, l104, l105, l106, l107, l108, l109, l110, l111, l112, l113, l114, l115, l116, l117, l118, l119, l121, l122, l127, l255, l700, l1320, l1000000, show (99 < k) = True from eq_true h99]
    refine fin v ?_
    unfold dlA
    rcases hv with ⟨e1, e2⟩ | ⟨e1, e2⟩
    · rw [e1, if_neg (by omega)]
    · rw [e1, if_pos (by omega)]
  · simp (disch := omega) only [xB_s, xB2_s, xGet_s, xPut_s, xAld_s, xAst_s, xIf_t, xBool_s, l0, l1, l2, l3, l4, l5, l6, l7, l8, l9, l10, l11, l12, l13, l15, l16, l17, l19, l20, l25, l27, l30, l31, l32, l33, l39, l40, l60, l61, l99, l100, l120, l256, l999, l1999, l99999, lm, nI_add, pk_mul, nI_leI, nI_ltI, nI_eq, wuS_1, wuS_2, wuA_1, wuA_21, wuA_22, nI_m1, m1_nI, nIlt_m1, m1lt_nI, Nat.reduceEqDiff, Nat.reduceAdd, Nat.reduceMul, Nat.reduceSub, Nat.reduceLT, Nat.reduceLeDiff, reduceIte, if_true, if_false, Bool.false_eq_true, Nat.add_zero, Nat.zero_add, ne_eq, not_false_eq_true, not_true_eq_false, Nat.not_lt_zero, Nat.add_left_cancel_iff, Nat.add_right_cancel_iff, eq_self, upd_s, pk_sub, nI_pm, Nat.add_sub_cancel, List.length_cons, List.length_nil, Nat.add_eq_zero_iff, Nat.succ_ne_zero, and_false, false_and, l14, l18, l21, l23, l24, l26, l28, l29, l34, l35, l36, l41, l42, l43, l45, l47, l48, l49, l50, l51, l52, l57, l58, l59, l62, l63, l64, l96, l97, l98, l101, l102, l103, l104, l105, l106, l107, l108, l109, l110, l111, l112, l113, l114, l115, l116, l117, l118, l119, l121, l122, l127, l255, l700, l1320, l1000000, show (99 < k) = False from eq_false (by omega)]
    rcases hv with ⟨rfl, e2⟩ | ⟨rfl, e2⟩
    · simp (disch := omega) only [xB_s, xB2_s, xGet_s, xPut_s, xAld_s, xAst_s, xIf_t, xBool_s, l0, l1, l2, l3, l4, l5, l6, l7, l8, l9, l10, l11, l12, l13, l15, l16, l17, l19, l20, l25, l27, l30, l31, l32, l33, l39, l40, l60, l61, l99, l100, l120, l256, l999, l1999, l99999, lm, nI_add, pk_mul, nI_leI, nI_ltI, nI_eq, wuS_1, wuS_2, wuA_1, wuA_21, wuA_22, nI_m1, m1_nI, nIlt_m1, m1lt_nI, Nat.reduceEqDiff, Nat.reduceAdd, Nat.reduceMul, Nat.reduceSub, Nat.reduceLT, Nat.reduceLeDiff, reduceIte, if_true, if_false, Bool.false_eq_true, Nat.add_zero, Nat.zero_add, ne_eq, not_false_eq_true, not_true_eq_false, Nat.not_lt_zero, Nat.add_left_cancel_iff, Nat.add_right_cancel_iff, eq_self, upd_s, pk_sub, nI_pm, Nat.add_sub_cancel, List.length_cons, List.length_nil, Nat.add_eq_zero_iff, Nat.succ_ne_zero, and_false, false_and, l14, l18, l21, l23, l24, l26, l28, l29, l34, l35, l36, l41, l42, l43, l45, l47, l48, l49, l50, l51, l52, l57, l58, l59, l62, l63, l64, l96, l97, l98, l101, l102, l103, l104, l105, l106, l107, l108, l109, l110, l111, l112, l113, l114, l115, l116, l117, l118, l119, l121, l122, l127, l255, l700, l1320, l1000000]
      have F2 : Fr mKd mAs w (wuS w' 55 (nI k)) := F.S (by decide)
      have T2 : TM t (wuS w' 55 (nI k)) := T.d F2
      have Y2 : YM y ((wuS w' 55 (nI k)).2.1 16) 0 := Y.of (fun j _ hj => f16 j (by omega))
      have X2 : EM (exD d p k) (wuS w' 55 (nI k)) := by
        refine ⟨0, k, ?_, wuS_at, by omega, h99, fun e q hq he => ?_⟩
        · rw [F2.1 52 (by decide)]; exact h52
        · have e53 : (wuS w' 55 (nI k)).1 53 = nI p := by rw [wuS_1, if_neg (by decide)]; exact f53
          have e54 : (wuS w' 55 (nI k)).1 54 = nI d := by rw [wuS_1, if_neg (by decide)]; exact f54
          rw [e53, e54, Nat.zero_add]
          unfold exD
          by_cases z : q = p ∧ e = d
          · rw [if_pos z, if_pos ⟨by rw [z.1], by rw [z.2]⟩]
          · rw [if_neg z, if_neg (fun u => z ⟨(nI_eq (by omega) (by omega)).mp u.1, (nI_eq (by omega) (by omega)).mp u.2⟩)]
      refine wp_B (m_goesTo T2 X2 ho hy (by omega) (by omega) Y2) ?_
      rintro w3 ⟨g1, g2, g3⟩
      have g4 := (g3 0 rfl).2.2.2.2.1 d hd
      have F3 : Fr mKd mAs w w3 := F2.trans (g1.1.mono (by decide) (by decide))
      have k16 : ∀ k, k < 33 → w3.2.1 16 k = w.2.1 16 k := fun j hj => (g1.2 j (Or.inl hj)).trans (f16 j hj)
      have k53 : w3.1 53 = nI p := by rw [g1.1.1 53 (by decide), wuS_1, if_neg (by decide)]; exact f53
      have k54 : w3.1 54 = nI d := by rw [g1.1.1 54 (by decide), wuS_1, if_neg (by decide)]; exact f54
      have k0 : w3.1 0 = nI 0 := by rw [g1.1.1 0 (by decide), wuS_1, if_neg (by decide)]; exact f0
      have k55 : ∃ b, b ≤ 99 ∧ w3.1 55 = nI b := ⟨k, h99, by rw [g1.1.1 55 (by decide)]; exact wuS_at⟩
      have g4 : w3.2.1 21 d = oI (lstS t (exD d p k) y d) := g4
      simp (disch := omega) only [xB_s, xB2_s, xGet_s, xPut_s, xAld_s, xAst_s, xIf_t, xBool_s, l0, l1, l2, l3, l4, l5, l6, l7, l8, l9, l10, l11, l12, l13, l15, l16, l17, l19, l20, l25, l27, l30, l31, l32, l33, l39, l40, l60, l61, l99, l100, l120, l256, l999, l1999, l99999, lm, nI_add, pk_mul, nI_leI, nI_ltI, nI_eq, wuS_1, wuS_2, wuA_1, wuA_21, wuA_22, nI_m1, m1_nI, nIlt_m1, m1lt_nI, Nat.reduceEqDiff, Nat.reduceAdd, Nat.reduceMul, Nat.reduceSub, Nat.reduceLT, Nat.reduceLeDiff, reduceIte, if_true, if_false, Bool.false_eq_true, Nat.add_zero, Nat.zero_add, ne_eq, not_false_eq_true, not_true_eq_false, Nat.not_lt_zero, Nat.add_left_cancel_iff, Nat.add_right_cancel_iff, eq_self, upd_s, pk_sub, nI_pm, Nat.add_sub_cancel, List.length_cons, List.length_nil, Nat.add_eq_zero_iff, Nat.succ_ne_zero, and_false, false_and, l14, l18, l21, l23, l24, l26, l28, l29, l34, l35, l36, l41, l42, l43, l45, l47, l48, l49, l50, l51, l52, l57, l58, l59, l62, l63, l64, l96, l97, l98, l101, l102, l103, l104, l105, l106, l107, l108, l109, l110, l111, l112, l113, l114, l115, l116, l117, l118, l119, l121, l122, l127, l255, l700, l1320, l1000000, g4]
      by_cases hl : lstS t (exD d p k) y d = some p
      · rw [hl, oI_s, if_pos rfl]
        have := (hls k).mp hl
        obtain rfl : k = L := by omega
        exact hkk (by omega) _ ⟨w3, _, rfl, Or.inr ⟨rfl, by omega⟩, F3, k16, k53, k54, k0, k55⟩
      · rw [if_neg (fun z => hl ((oI_eqI (fun q hq => by have := (lstW_lt hq).1; omega) (fun q hq => by cases hq; omega)).mp (z.trans (oI_s p).symm)))]
        have : ¬ L ≤ k := fun z => hl ((hls k).mpr z)
        exact hkk (by omega) _ ⟨w3, _, rfl, Or.inl ⟨rfl, by omega⟩, F3, k16, k53, k54, k0, k55⟩
    · simp (disch := omega) only [xB_s, xB2_s, xGet_s, xPut_s, xAld_s, xAst_s, xIf_t, xBool_s, l0, l1, l2, l3, l4, l5, l6, l7, l8, l9, l10, l11, l12, l13, l15, l16, l17, l19, l20, l25, l27, l30, l31, l32, l33, l39, l40, l60, l61, l99, l100, l120, l256, l999, l1999, l99999, lm, nI_add, pk_mul, nI_leI, nI_ltI, nI_eq, wuS_1, wuS_2, wuA_1, wuA_21, wuA_22, nI_m1, m1_nI, nIlt_m1, m1lt_nI, Nat.reduceEqDiff, Nat.reduceAdd, Nat.reduceMul, Nat.reduceSub, Nat.reduceLT, Nat.reduceLeDiff, reduceIte, if_true, if_false, Bool.false_eq_true, Nat.add_zero, Nat.zero_add, ne_eq, not_false_eq_true, not_true_eq_false, Nat.not_lt_zero, Nat.add_left_cancel_iff, Nat.add_right_cancel_iff, eq_self, upd_s, pk_sub, nI_pm, Nat.add_sub_cancel, List.length_cons, List.length_nil, Nat.add_eq_zero_iff, Nat.succ_ne_zero, and_false, false_and, l14, l18, l21, l23, l24, l26, l28, l29, l34, l35, l36, l41, l42, l43, l45, l47, l48, l49, l50, l51, l52, l57, l58, l59, l62, l63, l64, l96, l97, l98, l101, l102, l103, l104, l105, l106, l107, l108, l109, l110, l111, l112, l113, l114, l115, l116, l117, l118, l119, l121, l122, l127, l255, l700, l1320, l1000000]
      refine fin _ ?_
      unfold dlA
      rw [if_pos (by omega)]
theorem q_delay {t : Tn} {y : Yw} {o : wO} {wx wm : wS} {a1 a2 : Int32} (h : PQ t y o wx wm) : R2 (L_X9_delay o a1 a2 wx) (L_X10_delay a1 a2 wm) (QA cdN wx wm) := by
  obtain ⟨w1, e1, q1, z1, T1, Y1, h1⟩ := h.put
  have hh := h1
  obtain ⟨⟨ho, hy, hD⟩, ⟨hT, hY⟩, _, _, h52, h53, b0, hb0, h55⟩ := hh
  have b1 := ho.1
  unfold L_X9_delay L_X10_delay J_X10_delay_21 J_X10_delay_42
  simp only [xB_s, xB2_s, xIf_t, xBT_n, xBT_e, l0, l1, l2, l3, l4, l5, l6, l7, l8, l9, l10, l11, l12, l13, l15, l16, l17, l19, l20, l25, l27, l30, l31, l32, l33, l39, l40, l60, l61, l99, l100, l120, l256, l999, l1999, l99999, lm, l14, l18, l21, l23, l24, l26, l28, l29, l34, l35, l36, l41, l42, l43, l45, l47, l48, l49, l50, l51, l52, l57, l58, l59, l62, l63, l64, l96, l97, l98, l101, l102, l103, l104, l105, l106, l107, l108, l109, l110, l111, l112, l113, l114, l115, l116, l117, l118, l119, l121, l122, l127, l255, l700, l1320, l1000000, e1]
  refine g_person hT ho T1.1 z1 (by simp (disch := omega) only [xB_s, xB2_s, xGet_s, xPut_s, xAld_s, xAst_s, xIf_t, xBool_s, l0, l1, l2, l3, l4, l5, l6, l7, l8, l9, l10, l11, l12, l13, l15, l16, l17, l19, l20, l25, l27, l30, l31, l32, l33, l39, l40, l60, l61, l99, l100, l120, l256, l999, l1999, l99999, lm, nI_add, pk_mul, nI_leI, nI_ltI, nI_eq, wuS_1, wuS_2, wuA_1, wuA_21, wuA_22, nI_m1, m1_nI, nIlt_m1, m1lt_nI, Nat.reduceEqDiff, Nat.reduceAdd, Nat.reduceMul, Nat.reduceSub, Nat.reduceLT, Nat.reduceLeDiff, reduceIte, if_true, if_false, Bool.false_eq_true, Nat.add_zero, Nat.zero_add, ne_eq, not_false_eq_true, not_true_eq_false, Nat.not_lt_zero, Nat.add_left_cancel_iff, Nat.add_right_cancel_iff, eq_self, upd_s, pk_sub, nI_pm, Nat.add_sub_cancel, List.length_cons, List.length_nil, Nat.add_eq_zero_iff, Nat.succ_ne_zero, and_false, false_and, l14, l18, l21, l23, l24, l26, l28, l29, l34, l35, l36, l41, l42, l43, l45, l47, l48, l49, l50, l51, l52, l57, l58, l59, l62, l63, l64, l96, l97, l98, l101, l102, l103, l104, l105, l106, l107, l108, l109, l110, l111, l112, l113, l114, l115, l116, l117, l118, l119, l121, l122, l127, l255, l700, l1320, l1000000]; exact QA.no q1) ?_
  rintro p hp rfl
  simp (disch := omega) only [xB_s, xB2_s, xGet_s, xPut_s, xAld_s, xAst_s, xIf_t, xBool_s, l0, l1, l2, l3, l4, l5, l6, l7, l8, l9, l10, l11, l12, l13, l15, l16, l17, l19, l20, l25, l27, l30, l31, l32, l33, l39, l40, l60, l61, l99, l100, l120, l256, l999, l1999, l99999, lm, nI_add, pk_mul, nI_leI, nI_ltI, nI_eq, wuS_1, wuS_2, wuA_1, wuA_21, wuA_22, nI_m1, m1_nI, nIlt_m1, m1lt_nI, Nat.reduceEqDiff, Nat.reduceAdd, Nat.reduceMul, Nat.reduceSub, Nat.reduceLT, Nat.reduceLeDiff, reduceIte, if_true, if_false, Bool.false_eq_true, Nat.add_zero, Nat.zero_add, ne_eq, not_false_eq_true, not_true_eq_false, Nat.not_lt_zero, Nat.add_left_cancel_iff, Nat.add_right_cancel_iff, eq_self, upd_s, pk_sub, nI_pm, Nat.add_sub_cancel, List.length_cons, List.length_nil, Nat.add_eq_zero_iff, Nat.succ_ne_zero, and_false, false_and, l14, l18, l21, l23, l24, l26, l28, l29, l34, l35, l36, l41, l42, l43, l45, l47, l48, l49, l50, l51, l52, l57, l58, l59, l62, l63, l64, l96, l97, l98, l101, l102, l103, l104, l105, l106, l107, l108, l109, l110, l111, l112, l113, l114, l115, l116, l117, l118, l119, l121, l122, l127, l255, l700, l1320, l1000000]
  refine g_duty hT ho T1.2.1 z1 (by simp (disch := omega) only [xB_s, xB2_s, xGet_s, xPut_s, xAld_s, xAst_s, xIf_t, xBool_s, l0, l1, l2, l3, l4, l5, l6, l7, l8, l9, l10, l11, l12, l13, l15, l16, l17, l19, l20, l25, l27, l30, l31, l32, l33, l39, l40, l60, l61, l99, l100, l120, l256, l999, l1999, l99999, lm, nI_add, pk_mul, nI_leI, nI_ltI, nI_eq, wuS_1, wuS_2, wuA_1, wuA_21, wuA_22, nI_m1, m1_nI, nIlt_m1, m1lt_nI, Nat.reduceEqDiff, Nat.reduceAdd, Nat.reduceMul, Nat.reduceSub, Nat.reduceLT, Nat.reduceLeDiff, reduceIte, if_true, if_false, Bool.false_eq_true, Nat.add_zero, Nat.zero_add, ne_eq, not_false_eq_true, not_true_eq_false, Nat.not_lt_zero, Nat.add_left_cancel_iff, Nat.add_right_cancel_iff, eq_self, upd_s, pk_sub, nI_pm, Nat.add_sub_cancel, List.length_cons, List.length_nil, Nat.add_eq_zero_iff, Nat.succ_ne_zero, and_false, false_and, l14, l18, l21, l23, l24, l26, l28, l29, l34, l35, l36, l41, l42, l43, l45, l47, l48, l49, l50, l51, l52, l57, l58, l59, l62, l63, l64, l96, l97, l98, l101, l102, l103, l104, l105, l106, l107, l108, l109, l110, l111, l112, l113, l114, l115, l116, l117, l118, l119, l121, l122, l127, l255, l700, l1320, l1000000]; exact QA.no q1) ?_
  rintro d hd rfl
  simp (disch := omega) only [xB_s, xB2_s, xGet_s, xPut_s, xAld_s, xAst_s, xIf_t, xBool_s, l0, l1, l2, l3, l4, l5, l6, l7, l8, l9, l10, l11, l12, l13, l15, l16, l17, l19, l20, l25, l27, l30, l31, l32, l33, l39, l40, l60, l61, l99, l100, l120, l256, l999, l1999, l99999, lm, nI_add, pk_mul, nI_leI, nI_ltI, nI_eq, wuS_1, wuS_2, wuA_1, wuA_21, wuA_22, nI_m1, m1_nI, nIlt_m1, m1lt_nI, Nat.reduceEqDiff, Nat.reduceAdd, Nat.reduceMul, Nat.reduceSub, Nat.reduceLT, Nat.reduceLeDiff, reduceIte, if_true, if_false, Bool.false_eq_true, Nat.add_zero, Nat.zero_add, ne_eq, not_false_eq_true, not_true_eq_false, Nat.not_lt_zero, Nat.add_left_cancel_iff, Nat.add_right_cancel_iff, eq_self, upd_s, pk_sub, nI_pm, Nat.add_sub_cancel, List.length_cons, List.length_nil, Nat.add_eq_zero_iff, Nat.succ_ne_zero, and_false, false_and, l14, l18, l21, l23, l24, l26, l28, l29, l34, l35, l36, l41, l42, l43, l45, l47, l48, l49, l50, l51, l52, l57, l58, l59, l62, l63, l64, l96, l97, l98, l101, l102, l103, l104, l105, l106, l107, l108, l109, l110, l111, l112, l113, l114, l115, l116, l117, l118, l119, l121, l122, l127, l255, l700, l1320, l1000000]
  refine R2.x (x_nextDayTo hT ho hy hd hY) ?_
  rintro wx' ⟨a1, a2, a3, a4, a5⟩
  have hok := turns_ok (ex := exC 0) hy d
  have hN : ∀ p, cmN t (exC 0) (turns t (exC 0) y d) d p ≤ 2000 := fun p => by
    have := cmN_le (y := turns t (exC 0) y d) (ex := exC 0) (p := p) (d := d) (e := 0) ho hok (Nat.le_refl 0)
    omega
  have hNp := hN p
  have e2 := x_canBeLast a2 ho hp (a4 p hp) (by
    have := hN p
    omega)
  have dc := m_doesCome (y := y) (b := 0) T1 Y1.2.2.1 ho (by omega) hp
  have hK := ho.2.2.2.1 p
  simp (disch := omega) only [xB_s, xB2_s, xGet_s, xPut_s, xAld_s, xAst_s, xIf_t, xBool_s, l0, l1, l2, l3, l4, l5, l6, l7, l8, l9, l10, l11, l12, l13, l15, l16, l17, l19, l20, l25, l27, l30, l31, l32, l33, l39, l40, l60, l61, l99, l100, l120, l256, l999, l1999, l99999, lm, nI_add, pk_mul, nI_leI, nI_ltI, nI_eq, wuS_1, wuS_2, wuA_1, wuA_21, wuA_22, nI_m1, m1_nI, nIlt_m1, m1lt_nI, Nat.reduceEqDiff, Nat.reduceAdd, Nat.reduceMul, Nat.reduceSub, Nat.reduceLT, Nat.reduceLeDiff, reduceIte, if_true, if_false, Bool.false_eq_true, Nat.add_zero, Nat.zero_add, ne_eq, not_false_eq_true, not_true_eq_false, Nat.not_lt_zero, Nat.add_left_cancel_iff, Nat.add_right_cancel_iff, eq_self, upd_s, pk_sub, nI_pm, Nat.add_sub_cancel, List.length_cons, List.length_nil, Nat.add_eq_zero_iff, Nat.succ_ne_zero, and_false, false_and, l14, l18, l21, l23, l24, l26, l28, l29, l34, l35, l36, l41, l42, l43, l45, l47, l48, l49, l50, l51, l52, l57, l58, l59, l62, l63, l64, l96, l97, l98, l101, l102, l103, l104, l105, l106, l107, l108, l109, l110, l111, l112, l113, l114, l115, l116, l117, l118, l119, l121, l122, l127, l255, l700, l1320, l1000000, e2, T1.2.2.2.1 p hp, dc]
  by_cases hmu : tK t p = 1
  · rw [if_pos hmu, canL_f (fun z => z.2 hmu)]
    simp (disch := omega) only [xB_s, xB2_s, xGet_s, xPut_s, xAld_s, xAst_s, xIf_t, xBool_s, l0, l1, l2, l3, l4, l5, l6, l7, l8, l9, l10, l11, l12, l13, l15, l16, l17, l19, l20, l25, l27, l30, l31, l32, l33, l39, l40, l60, l61, l99, l100, l120, l256, l999, l1999, l99999, lm, nI_add, pk_mul, nI_leI, nI_ltI, nI_eq, wuS_1, wuS_2, wuA_1, wuA_21, wuA_22, nI_m1, m1_nI, nIlt_m1, m1lt_nI, Nat.reduceEqDiff, Nat.reduceAdd, Nat.reduceMul, Nat.reduceSub, Nat.reduceLT, Nat.reduceLeDiff, reduceIte, if_true, if_false, Bool.false_eq_true, Nat.add_zero, Nat.zero_add, ne_eq, not_false_eq_true, not_true_eq_false, Nat.not_lt_zero, Nat.add_left_cancel_iff, Nat.add_right_cancel_iff, eq_self, upd_s, pk_sub, nI_pm, Nat.add_sub_cancel, List.length_cons, List.length_nil, Nat.add_eq_zero_iff, Nat.succ_ne_zero, and_false, false_and, l14, l18, l21, l23, l24, l26, l28, l29, l34, l35, l36, l41, l42, l43, l45, l47, l48, l49, l50, l51, l52, l57, l58, l59, l62, l63, l64, l96, l97, l98, l101, l102, l103, l104, l105, l106, l107, l108, l109, l110, l111, l112, l113, l114, l115, l116, l117, l118, l119, l121, l122, l127, l255, l700, l1320, l1000000, Bool.toNat_false]
    exact QA.ok a1 q1 z1 rfl
  · rw [if_neg hmu]
    cases hcm : cmB t y p with
    | false =>
      rw [canL_f (fun z => by rw [cmB_turns, hcm] at z; exact Bool.noConfusion z.1)]
      simp (disch := omega) only [xB_s, xB2_s, xGet_s, xPut_s, xAld_s, xAst_s, xIf_t, xBool_s, l0, l1, l2, l3, l4, l5, l6, l7, l8, l9, l10, l11, l12, l13, l15, l16, l17, l19, l20, l25, l27, l30, l31, l32, l33, l39, l40, l60, l61, l99, l100, l120, l256, l999, l1999, l99999, lm, nI_add, pk_mul, nI_leI, nI_ltI, nI_eq, wuS_1, wuS_2, wuA_1, wuA_21, wuA_22, nI_m1, m1_nI, nIlt_m1, m1lt_nI, Nat.reduceEqDiff, Nat.reduceAdd, Nat.reduceMul, Nat.reduceSub, Nat.reduceLT, Nat.reduceLeDiff, reduceIte, if_true, if_false, Bool.false_eq_true, Nat.add_zero, Nat.zero_add, ne_eq, not_false_eq_true, not_true_eq_false, Nat.not_lt_zero, Nat.add_left_cancel_iff, Nat.add_right_cancel_iff, eq_self, upd_s, pk_sub, nI_pm, Nat.add_sub_cancel, List.length_cons, List.length_nil, Nat.add_eq_zero_iff, Nat.succ_ne_zero, and_false, false_and, l14, l18, l21, l23, l24, l26, l28, l29, l34, l35, l36, l41, l42, l43, l45, l47, l48, l49, l50, l51, l52, l57, l58, l59, l62, l63, l64, l96, l97, l98, l101, l102, l103, l104, l105, l106, l107, l108, l109, l110, l111, l112, l113, l114, l115, l116, l117, l118, l119, l121, l122, l127, l255, l700, l1320, l1000000, Bool.toNat_false]
      exact QA.ok a1 q1 z1 rfl
    | true =>
      have hc : canL t (turns t (exC 0) y d) p = true := canL_iff.mpr ⟨by rw [cmB_turns]; exact hcm, hmu⟩
      rw [hc]
      simp (disch := omega) only [xB_s, xB2_s, xGet_s, xPut_s, xAld_s, xAst_s, xIf_t, xBool_s, l0, l1, l2, l3, l4, l5, l6, l7, l8, l9, l10, l11, l12, l13, l15, l16, l17, l19, l20, l25, l27, l30, l31, l32, l33, l39, l40, l60, l61, l99, l100, l120, l256, l999, l1999, l99999, lm, nI_add, pk_mul, nI_leI, nI_ltI, nI_eq, wuS_1, wuS_2, wuA_1, wuA_21, wuA_22, nI_m1, m1_nI, nIlt_m1, m1lt_nI, Nat.reduceEqDiff, Nat.reduceAdd, Nat.reduceMul, Nat.reduceSub, Nat.reduceLT, Nat.reduceLeDiff, reduceIte, if_true, if_false, Bool.false_eq_true, Nat.add_zero, Nat.zero_add, ne_eq, not_false_eq_true, not_true_eq_false, Nat.not_lt_zero, Nat.add_left_cancel_iff, Nat.add_right_cancel_iff, eq_self, upd_s, pk_sub, nI_pm, Nat.add_sub_cancel, List.length_cons, List.length_nil, Nat.add_eq_zero_iff, Nat.succ_ne_zero, and_false, false_and, l14, l18, l21, l23, l24, l26, l28, l29, l34, l35, l36, l41, l42, l43, l45, l47, l48, l49, l50, l51, l52, l57, l58, l59, l62, l63, l64, l96, l97, l98, l101, l102, l103, l104, l105, l106, l107, l108, l109, l110, l111, l112, l113, l114, l115, l116, l117, l118, l119, l121, l122, l127, l255, l700, l1320, l1000000, Bool.toNat_true]
      have F1 : Fr mKd mAs w1 (wuS (wuS w1 53 (nI p)) 54 (nI d)) := (Fr.refl.S (by decide)).S (by decide)
      refine R2.wp (x_delay a2 (hT.q a1) ho a4 a5 hN hp hc) (m_delay (y := y) (b0 := b0) ho hy hD (T1.d F1) (Y1.of (fun _ _ _ => rfl)) ?_ ?_ wuS_at ?_ hp hd hc hb0 ?_) ?_
      · rw [F1.1 52 (by decide)]; exact h52
      · rw [wuS_1, if_neg (by decide)]; exact wuS_at
      · rw [wuS_1, if_neg (by decide), wuS_1, if_neg (by decide)]; exact z1
      · rw [wuS_1, if_neg (by decide), wuS_1, if_neg (by decide)]; exact h55
      rintro ⟨ax, ax'⟩ ⟨am, am'⟩ c1 ⟨c2, c3, c4, c5, c6, c7⟩
      obtain ⟨rfl, rfl⟩ := Prod.mk.inj c1
      refine ⟨a1, q1.trans ⟨⟨fun k hk => ?_, fun c hc => ?_, (F1.trans c3).2.2⟩, c4, Or.inr c7⟩, c6, c2⟩
      · by_cases e : k = 53
        · rw [e]; exact c5.trans h53.symm
        · exact (F1.trans c3).1 k (by simp at hk ⊢; omega)
      · exact (F1.trans c3).2.1 c hc
end
