section
theorem lg_0 {x y : Int64} : lg_cmp x y = 0 ↔ x = y := by
  unfold lg_cmp
  by_cases h : x > y
  · rw [if_pos h]
    refine ⟨fun q => absurd q (by decide), fun q => ?_⟩
    rw [q] at h
    exact absurd h (Int64.lt_irrefl)
  · rw [if_neg h]
    by_cases h2 : x = y
    · rw [if_pos h2]; exact ⟨fun _ => h2, fun _ => rfl⟩
    · rw [if_neg h2]; exact ⟨fun q => absurd q (by decide), fun q => absurd q h2⟩
def wN (f : Nat → Nat) : Nat → Nat
  | 0 => 0
  | j + 1 => 32 * wN f j + f j
theorem wN_inj {f g : Nat → Nat} : ∀ {z z' : Nat}, (∀ i, i < z → 1 ≤ f i ∧ f i < 32) → (∀ i, i < z' → 1 ≤ g i ∧ g i < 32) → wN f z = wN g z' → z = z' ∧ ∀ i, i < z → f i = g i
  | 0, 0, _, _, _ => ⟨rfl, fun i hi => absurd hi (Nat.not_lt_zero i)⟩
  | 0, z' + 1, _, hg, h => by
    have := hg z' (by omega)
    have h : 0 = 32 * wN g z' + g z' := h
    omega
  | z + 1, 0, hf, _, h => by
    have := hf z (by omega)
    have h : 32 * wN f z + f z = 0 := h
    omega
  | z + 1, z' + 1, hf, hg, h => by
    have a1 := hf z (by omega)
    have a2 := hg z' (by omega)
    have h : 32 * wN f z + f z = 32 * wN g z' + g z' := h
    obtain ⟨e, r⟩ := wN_inj (f := f) (g := g) (z := z) (z' := z') (fun i hi => hf i (by omega)) (fun i hi => hg i (by omega)) (by omega)
    refine ⟨by omega, fun i hi => ?_⟩
    by_cases q : i = z
    · rw [q]; rw [← e] at h a2; omega
    · exact r i (by omega)
theorem wN_lt {f : Nat → Nat} : ∀ {z : Nat}, (∀ i, i < z → f i < 32) → wN f z < 32 ^ z
  | 0, _ => show 0 < 32 ^ 0 from by decide
  | z + 1, h => by
    have := wN_lt (f := f) (z := z) (fun i hi => h i (by omega))
    have := h z (by omega)
    show 32 * wN f z + f z < 32 ^ (z + 1)
    rw [Nat.pow_succ]
    omega
theorem t6_s5 (x : Int64) : t6 (x <<< ((nI 5).toInt64 &&& 63)) = t6 x * 32 % 18446744073709551616 := by
  unfold t6
  rw [Int64.toBitVec_shiftLeft]
  show (x.toBitVec <<< (((nI 5).toInt64 &&& 63).toBitVec.smod 64).toNat).toNat = _
  rw [show (((nI 5).toInt64 &&& 63).toBitVec.smod 64).toNat = 5 by decide +kernel, BitVec.toNat_shiftLeft, Nat.shiftLeft_eq]
theorem t6_ch : ∀ c, c < 123 → 97 ≤ c → t6 (nI c - nI 96).toInt64 = c - 96 := by decide +kernel
theorem t6_wd {b : Nat → Nat} {s : Nat} : ∀ {j : Nat}, j ≤ 6 → (∀ i, i < j → 97 ≤ b (s + i) ∧ b (s + i) < 123) → t6 (wdA b s j) = wN (fun i => b (s + i) - 96) j
  | 0, _, _ => by
    show t6 0 = 0
    decide +kernel
  | j + 1, hj, h => by
    have ih := t6_wd (b := b) (s := s) (j := j) (by omega) (fun i hi => h i (by omega))
    have hb := h j (by omega)
    have hl := wN_lt (f := fun i => b (s + i) - 96) (z := j) (fun i hi => by have := h i (by omega); show b (s + i) - 96 < 32; omega)
    have hp : 32 ^ j ≤ 32 ^ 5 := Nat.pow_le_pow_right (by omega) (by omega)
    simp only [Nat.reducePow] at hp
    rw [show wdA b s (j + 1) = (wdA b s j <<< ((nI 5).toInt64 &&& 63)) ||| (nI (b (s + j)) - nI 96).toInt64 from if_pos (by omega), t6_or, t6_s5, ih, t6_ch _ hb.2 hb.1, Nat.mod_eq_of_lt (by omega)]
    show _ = 32 * wN (fun i => b (s + i) - 96) j + (b (s + j) - 96)
    have e := Nat.two_pow_add_eq_or_of_lt (i := 5) (b := b (s + j) - 96) (show b (s + j) - 96 < 2 ^ 5 by simp only [Nat.reducePow]; omega) (wN (fun i => b (s + i) - 96) j)
    simp only [Nat.reducePow] at e
    rw [Nat.mul_comm, e]
theorem lt_k : ∀ k, k < 16 → (L_X10_letters (nI k)).map t6 = some (wN (fun i => (wl k).getD i 0 - 96) (wl k).length) := by decide +kernel
theorem lt_l : ∀ k, k < 16 → (wl k).length ≤ 6 ∧ ∀ i, i < (wl k).length → 97 ≤ (wl k).getD i 0 ∧ (wl k).getD i 0 < 123 := by decide +kernel
theorem wl_inj : ∀ k, k < 16 → ∀ j, j < 16 → wl k = wl j → k = j := by decide +kernel
/-- which word it is -/
def kwA (b : Nat → Nat) (n s : Nat) : Nat → Option Nat
  | 0 => none
  | k + 1 => match kwA b n s k with
    | some r => some r
    | none => if wIs b n s (wl k) then some k else none
def kw (b : Nat → Nat) (n s : Nat) : Option Nat := kwA b n s 16
theorem kwA_n {b : Nat → Nat} {n s k : Nat} (h : kwA b n s k = none) : kwA b n s (k + 1) = if wIs b n s (wl k) then some k else none := by
  show (match kwA b n s k with
    | some r => some r
    | none => if wIs b n s (wl k) then some k else none) = _
  rw [h]
theorem kwA_s {b : Nat → Nat} {n s k r : Nat} (h : kwA b n s k = some r) : kwA b n s (k + 1) = some r := by
  show (match kwA b n s k with
    | some r => some r
    | none => if wIs b n s (wl k) then some k else none) = _
  rw [h]
theorem kwA_up {b : Nat → Nat} {n s k r : Nat} (h : kwA b n s k = some r) : ∀ m, kwA b n s (k + m) = some r
  | 0 => h
  | m + 1 => kwA_s (kwA_up h m)
theorem kwA_is {b : Nat → Nat} {n s : Nat} : ∀ {k r : Nat}, kwA b n s k = some r → r < k ∧ wIs b n s (wl r)
  | 0, _, h => by cases h
  | k + 1, r, h => by
    cases e : kwA b n s k with
    | some q =>
      rw [kwA_s e] at h
      obtain rfl := Option.some.inj h
      obtain ⟨h1, h2⟩ := kwA_is e
      exact ⟨by omega, h2⟩
    | none =>
      rw [kwA_n e] at h
      by_cases q : wIs b n s (wl k)
      · rw [if_pos q] at h
        obtain rfl := Option.some.inj h
        exact ⟨by omega, q⟩
      · rw [if_neg q] at h; cases h
theorem kwA_no {b : Nat → Nat} {n s : Nat} : ∀ {k : Nat}, kwA b n s k = none → ∀ r, r < k → ¬ wIs b n s (wl r)
  | 0, _, r, hr => absurd hr (Nat.not_lt_zero r)
  | k + 1, h, r, hr => by
    cases e : kwA b n s k with
    | some q => rw [kwA_s e] at h; cases h
    | none =>
      rw [kwA_n e] at h
      by_cases q : wIs b n s (wl k)
      · rw [if_pos q] at h; cases h
      · by_cases z : r = k
        · rw [z]; exact q
        · exact kwA_no e r (by omega)
theorem kw_iff {b : Nat → Nat} {n s k : Nat} (hk : k < 16) : kw b n s = some k ↔ wIs b n s (wl k) := by
  refine ⟨fun h => (kwA_is h).2, fun h => ?_⟩
  cases e : kw b n s with
  | none => exact absurd h (kwA_no e k hk)
  | some r =>
    obtain ⟨h1, h2⟩ := kwA_is e
    rw [wl_inj r h1 k hk (wIs_1 h2 h)]
theorem kw_lt {b : Nat → Nat} {n s k : Nat} (h : kw b n s = some k) : k < 16 := (kwA_is h).1
theorem srT_1 {b : Nat → Nat} {n s : Nat} : srT b n s = 1 ↔ kd b n s = 97 := by
  rw [kd_97]
  unfold srT
  by_cases h1 : n ≤ s
  · rw [if_pos h1]
    exact ⟨fun h => by omega, fun h => by omega⟩
  · rw [if_neg h1]
    by_cases h2 : ltB (b s) = true
    · rw [if_pos h2]; exact ⟨fun _ => ⟨by omega, h2⟩, fun _ => rfl⟩
    · rw [if_neg h2]
      refine ⟨fun h => ?_, fun h => absurd h.2 h2⟩
      exfalso
      split at h
      · omega
      · split at h <;> omega
theorem srT_lt (b : Nat → Nat) (n s : Nat) : srT b n s < 5 := by
  unfold srT
  split
  · omega
  · split
    · omega
    · split
      · omega
      · split <;> omega
theorem m_known {b : Nat → Nat} {n s : Nat} {w : wS} (h : TMk b n s w) : L_X10_knownWord w = some (oI (kw b n s), w) := by
  obtain ⟨⟨b1, b2, b3⟩, hs, h17, h18, h19, h20, h22, h21, h23⟩ := h
  have hz := szT_le (b := b) hs
  have hr := srT_lt b n s
  suffices h : wpO (L_X10_knownWord w) (fun r => r = (oI (kw b n s), w)) by
    obtain ⟨a, e, rfl⟩ := h; exact e
  unfold L_X10_knownWord J_X10_knownWord_17
  simp (disch := omega) only [xB_s, xB2_s, xGet_s, xPut_s, xAld_s, xAst_s, xIf_t, xBool_s, l0, l1, l2, l3, l4, l5, l6, l7, l8, l9, l10, l11, l12, l13, l15, l16, l17, l19, l20, l25, l27, l30, l31, l32, l33, l39, l40, l60, l61, l99, l100, l120, l256, l999, l1999, l99999, lm, nI_add, pk_mul, nI_leI, nI_ltI, nI_eq, wuS_1, wuS_2, wuA_1, wuA_21, wuA_22, nI_m1, m1_nI, nIlt_m1, m1lt_nI, Nat.reduceEqDiff, Nat.reduceAdd, Nat.reduceMul, Nat.reduceSub, Nat.reduceLT, Nat.reduceLeDiff, reduceIte, if_true, if_false, Bool.false_eq_true, Nat.add_zero, Nat.zero_add, ne_eq, not_false_eq_true, not_true_eq_false, Nat.not_lt_zero, Nat.add_left_cancel_iff, Nat.add_right_cancel_iff, eq_self, upd_s, pk_sub, nI_pm, Nat.add_sub_cancel, List.length_cons, List.length_nil, Nat.add_eq_zero_iff, Nat.succ_ne_zero, and_false, false_and, l14, l18, l21, l23, l24, l26, l28, l29, l34, l35, l36, l41, l42, l43, l45, l47, l48, l49, l50, l51, l52, l57, l58, l59, l62, l63, l64, l96, l97, l98, l101, l102, l103, l104, l105, l106, l107, l108, l109, l110, l111, l112, l113, l114, l115, l116, l117, l118, l119, l121, l122, l127, l255, l700, l1320, l1000000, h18, h20]
  have none_of : (∀ r, r < 16 → ¬ wIs b n s (wl r)) → kw b n s = none := fun q => by
    cases e : kw b n s with
    | none => rfl
    | some r =>
      obtain ⟨g1, g2⟩ := kwA_is e
      exact absurd g2 (q r g1)
  by_cases q1 : srT b n s = 1
  · rw [if_pos q1]
    have hk := srT_1.mp q1
    obtain ⟨hn, hl⟩ := kd_97.mp hk
    have esz : szT b n s = rn ltB b n s := by unfold szT; rw [if_neg (by omega), if_pos hl]
    have lts : ∀ i, i < szT b n s → 97 ≤ b (s + i) ∧ b (s + i) < 123 := fun i hi => by
      have := rn_in (P := ltB) (b := b) (n := n) (k := szT b n s) (s := s) (by omega) i hi
      unfold ltB at this
      have : 97 ≤ b (s + i) ∧ b (s + i) ≤ 122 := by simpa using this
      omega
    by_cases q2 : szT b n s ≤ 6
    · rw [if_pos q2]
      have hw := t6_wd (b := b) (s := s) q2 lts
      rw [← h23 q1] at hw
      unfold P_X10_knownWord_21
      refine wp_for 16 (fun k σ => σ = (nI k, w) ∧ kwA b n s k = none) ?_ (Nat.zero_le _) (by omega) ⟨rfl, rfl⟩
      rintro k _ kk hi ⟨rfl, hno⟩ hkk
      show wpO (B_X10_knownWord_21 (fun x1 w => kk (x1, w)) _ _ (nI k) w) _
      unfold B_X10_knownWord_21
      by_cases hlt : k < 16
      · have e1 := lt_k k hlt
        obtain ⟨e2, e3⟩ := lt_l k hlt
        cases hL : L_X10_letters (nI k) with
        | none => rw [hL] at e1; cases e1
        | some v =>
          rw [hL] at e1
          have e1 : t6 v = wN (fun i => (wl k).getD i 0 - 96) (wl k).length := Option.some.inj e1
          simp (disch := omega) only [xB_s, xB2_s, xGet_s, xPut_s, xAld_s, xAst_s, xIf_t, xBool_s, l0, l1, l2, l3, l4, l5, l6, l7, l8, l9, l10, l11, l12, l13, l15, l16, l17, l19, l20, l25, l27, l30, l31, l32, l33, l39, l40, l60, l61, l99, l100, l120, l256, l999, l1999, l99999, lm, nI_add, pk_mul, nI_leI, nI_ltI, nI_eq, wuS_1, wuS_2, wuA_1, wuA_21, wuA_22, nI_m1, m1_nI, nIlt_m1, m1lt_nI, Nat.reduceEqDiff, Nat.reduceAdd, Nat.reduceMul, Nat.reduceSub, Nat.reduceLT, Nat.reduceLeDiff, reduceIte, if_true, if_false, Bool.false_eq_true, Nat.add_zero, Nat.zero_add, ne_eq, not_false_eq_true, not_true_eq_false, Nat.not_lt_zero, Nat.add_left_cancel_iff, Nat.add_right_cancel_iff, eq_self, upd_s, pk_sub, nI_pm, Nat.add_sub_cancel, List.length_cons, List.length_nil, Nat.add_eq_zero_iff, Nat.succ_ne_zero, and_false, false_and, l14, l18, l21, l23, l24, l26, l28, l29, l34, l35, l36, l41, l42, l43, l45, l47, l48, l49, l50, l51, l52, l57, l58, l59, l62, l63, l64, l96, l97, l98, l101, l102, l103, l104, l105, l106, l107, l108, l109, l110, l111, l112, l113, l114, l115, l116, l117, l118, l119, l121, l122, l127, l255, l700, l1320, l1000000, show (16 ≤ k) = False from eq_false (by omega), hL, xGetL_s]
          by_cases q3 : wIs b n s (wl k)
          · have : v = w.2.2.1 23 := by
              apply Int64.toBitVec_inj.mp
              apply BitVec.eq_of_toNat_eq
              show t6 v = t6 (w.2.2.1 23)
              rw [e1, hw, q3.2.1]
              have cg : ∀ j, j ≤ (wl k).length → wN (fun i => (wl k).getD i 0 - 96) j = wN (fun i => b (s + i) - 96) j := fun j hj => by
                induction j with
                | zero => rfl
                | succ j ih =>
                  show 32 * wN _ j + ((wl k).getD j 0 - 96) = 32 * wN _ j + (b (s + j) - 96)
                  rw [ih (by omega), q3.2.2 j (by omega)]
              exact cg _ (Nat.le_refl _)
            rw [if_pos (show lg_cmp v (w.2.2.1 23) = nI 0 from lg_0.mpr this)]
            have := kwA_up (kwA_n hno ▸ if_pos q3 : kwA b n s (k + 1) = some k) (16 - (k + 1))
            rw [show k + 1 + (16 - (k + 1)) = 16 by omega] at this
            rw [show kw b n s = some k from this]
            exact wp_some rfl
          · rw [if_neg (show ¬ lg_cmp v (w.2.2.1 23) = nI 0 from fun z => q3 ?_)]
            · exact hkk hlt _ ⟨rfl, by rw [kwA_n hno, if_neg q3]⟩
            · have z := lg_0.mp z
              rw [z, hw] at e1
              obtain ⟨z1, z2⟩ := wN_inj (fun i hi => by have := lts i hi; show 1 ≤ b (s + i) - 96 ∧ b (s + i) - 96 < 32; omega) (fun i hi => by have := e3 i hi; show 1 ≤ (wl k).getD i 0 - 96 ∧ (wl k).getD i 0 - 96 < 32; omega) e1
              refine ⟨hk, z1, fun j hj => ?_⟩
              have a1 := z2 j (by omega)
              have a1 : b (s + j) - 96 = (wl k).getD j 0 - 96 := a1
              have a2 := lts j (by omega)
              have a3 := e3 j hj
              omega
      · obtain rfl : k = 16 := by omega
        simp (disch := omega) only [xB_s, xB2_s, xGet_s, xPut_s, xAld_s, xAst_s, xIf_t, xBool_s, l0, l1, l2, l3, l4, l5, l6, l7, l8, l9, l10, l11, l12, l13, l15, l16, l17, l19, l20, l25, l27, l30, l31, l32, l33, l39, l40, l60, l61, l99, l100, l120, l256, l999, l1999, l99999, lm, nI_add, pk_mul, nI_leI, nI_ltI, nI_eq, wuS_1, wuS_2, wuA_1, wuA_21, wuA_22, nI_m1, m1_nI, nIlt_m1, m1lt_nI, Nat.reduceEqDiff, Nat.reduceAdd, Nat.reduceMul, Nat.reduceSub, Nat.reduceLT, Nat.reduceLeDiff, reduceIte, if_true, if_false, Bool.false_eq_true, Nat.add_zero, Nat.zero_add, ne_eq, not_false_eq_true, not_true_eq_false, Nat.not_lt_zero, Nat.add_left_cancel_iff, Nat.add_right_cancel_iff, eq_self, upd_s, pk_sub, nI_pm, Nat.add_sub_cancel, List.length_cons, List.length_nil, Nat.add_eq_zero_iff, Nat.succ_ne_zero, and_false, false_and, l14, l18, l21, l23, l24, l26, l28, l29, l34, l35, l36, l41, l42, l43, l45, l47, l48, l49, l50, l51, l52, l57, l58, l59, l62, l63, l64, l96, l97, l98, l101, l102, l103, l104, l105, l106, l107, l108, l109, l110, l111, l112, l113, l114, l115, l116, l117, l118, l119, l121, l122, l127, l255, l700, l1320, l1000000]
        rw [show kw b n s = none from hno]
        exact wp_some rfl
    · rw [if_neg q2, none_of (fun r hr z => by have := (lt_l r hr).1; have := z.2.1; omega)]
      exact wp_some rfl
  · rw [if_neg q1, none_of (fun r hr z => q1 (srT_1.mpr z.1))]
    exact wp_some rfl
end
