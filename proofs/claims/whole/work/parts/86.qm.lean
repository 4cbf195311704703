section
/-! ===== counts, the order, club ===== -/
def cN (p : Nat → Bool) : Nat → Nat
  | 0 => 0
  | n + 1 => cN p n + if p n = true then 1 else 0
theorem cN_y {p : Nat → Bool} {n : Nat} (h : p n = true) : cN p (n + 1) = cN p n + 1 := by
  show cN p n + _ = _
  rw [if_pos h]
theorem cN_n {p : Nat → Bool} {n : Nat} (h : p n = false) : cN p (n + 1) = cN p n := by
  show cN p n + _ = _
  rw [h]; rfl
theorem cN_le (p : Nat → Bool) : ∀ n, cN p n ≤ n
  | 0 => Nat.le_refl _
  | n + 1 => by
    have := cN_le p n
    show cN p n + _ ≤ n + 1
    split <;> omega
theorem cN_sub {p q : Nat → Bool} : ∀ {n : Nat}, (∀ k, k < n → p k = true → q k = true) → cN p n ≤ cN q n
  | 0, _ => Nat.le_refl _
  | n + 1, h => by
    have ih := cN_sub (n := n) (fun k hk => h k (by omega))
    show cN p n + _ ≤ cN q n + _
    by_cases c : p n = true
    · rw [if_pos c, if_pos (h n (by omega) c)]; omega
    · rw [if_neg c]; omega
theorem cN_cong {p q : Nat → Bool} : ∀ {n : Nat}, (∀ k, k < n → p k = q k) → cN p n = cN q n
  | 0, _ => rfl
  | n + 1, h => by
    show cN p n + _ = cN q n + _
    rw [cN_cong (n := n) (fun k hk => h k (by omega)), h n (by omega)]
theorem cN_ins {p q : Nat → Bool} {l : Nat} : ∀ {n : Nat}, l < n → p l = false → q l = true → (∀ k, k < n → k ≠ l → q k = p k) → cN q n = cN p n + 1
  | 0, h, _, _, _ => absurd h (Nat.not_lt_zero l)
  | n + 1, h, h1, h2, h3 => by
    by_cases e : n = l
    · subst e
      rw [cN_y h2, cN_n h1, cN_cong (fun k hk => h3 k (by omega) (by omega))]
    · have ih := cN_ins (n := n) (by omega) h1 h2 (fun k hk => h3 k (by omega))
      show cN q n + _ = cN p n + _ + 1
      rw [ih, h3 n (by omega) e]; omega
theorem ltr_iff {c f : Nat → Nat} {p q : Nat} : ltr c f p q = true ↔ c q < c p ∨ (c p = c q ∧ (f p < f q ∨ (f p = f q ∧ p < q))) := by
  unfold ltr
  simp only [Bool.or_eq_true, Bool.and_eq_true, decide_eq_true_eq]
theorem ltr_asym {c f : Nat → Nat} {p q : Nat} (h : ltr c f p q = true) : ltr c f q p = false := by
  cases h2 : ltr c f q p with
  | false => rfl
  | true =>
    have h := ltr_iff.mp h
    have h2 := ltr_iff.mp h2
    omega
theorem ltr_trans {c f : Nat → Nat} {p q r : Nat} (h : ltr c f p q = true) (h2 : ltr c f q r = true) : ltr c f p r = true := by
  have h := ltr_iff.mp h
  have h2 := ltr_iff.mp h2
  exact ltr_iff.mpr (by omega)
theorem ltr_total {c f : Nat → Nat} {p q : Nat} (h : ltr c f p q = false) (hn : p ≠ q) : ltr c f q p = true := by
  cases h2 : ltr c f q p with
  | true => rfl
  | false =>
    have a : ¬ (c q < c p ∨ (c p = c q ∧ (f p < f q ∨ (f p = f q ∧ p < q)))) := fun z => by
      rw [ltr_iff.mpr z] at h; exact Bool.noConfusion h
    have b : ¬ (c p < c q ∨ (c q = c p ∧ (f q < f p ∨ (f q = f p ∧ q < p)))) := fun z => by
      rw [ltr_iff.mpr z] at h2; exact Bool.noConfusion h2
    omega
theorem lstW_none {can : Nat → Bool} {c f : Nat → Nat} : ∀ {n : Nat}, lstW can c f n = none → ∀ q, q < n → can q = false
  | 0, _, q, hq => absurd hq (Nat.not_lt_zero q)
  | n + 1, h, q, hq => by
    cases hc : can n with
    | false =>
      rw [lstW_s1 hc] at h
      by_cases e : q = n
      · rw [e]; exact hc
      · exact lstW_none h q (by omega)
    | true =>
      cases hl : lstW can c f n with
      | none => rw [lstW_s2 hc hl] at h; cases h
      | some l =>
        rw [lstW_s3 hc hl] at h
        by_cases e : ltr c f n l = true
        · rw [if_pos e] at h; cases h
        · rw [if_neg e] at h; cases h
theorem lstW_max {can : Nat → Bool} {c f : Nat → Nat} : ∀ {n l : Nat}, lstW can c f n = some l → ∀ q, q < n → can q = true → q ≠ l → ltr c f l q = true
  | 0, _, _, q, hq, _, _ => absurd hq (Nat.not_lt_zero q)
  | n + 1, l, h, q, hq, hcq, hne => by
    cases hc : can n with
    | false =>
      rw [lstW_s1 hc] at h
      by_cases e : q = n
      · rw [e, hc] at hcq; exact Bool.noConfusion hcq
      · exact lstW_max h q (by omega) hcq hne
    | true =>
      cases hl : lstW can c f n with
      | none =>
        rw [lstW_s2 hc hl] at h
        obtain rfl := Option.some.inj h
        have := lstW_none hl q (by omega)
        rw [this] at hcq; exact Bool.noConfusion hcq
      | some l' =>
        rw [lstW_s3 hc hl] at h
        have hlt := (lstW_lt hl).1
        cases e : ltr c f n l' with
        | true =>
          rw [e, if_pos rfl] at h
          obtain rfl := Option.some.inj h
          by_cases e2 : q = l'
          · rw [e2]; exact e
          · exact ltr_trans e (lstW_max hl q (by omega) hcq e2)
        | false =>
          rw [e, if_neg (by simp)] at h
          obtain rfl := Option.some.inj h
          by_cases e2 : q = n
          · rw [e2]; exact ltr_total e (by omega)
          · exact lstW_max hl q (by omega) hcq hne
theorem lstW_is {can : Nat → Bool} {c f : Nat → Nat} {n p : Nat} (hp : p < n) (hc : can p = true) : lstW can c f n = some p ↔ ∀ q, q < n → can q = true → q ≠ p → ltr c f p q = true := by
  refine ⟨fun h => lstW_max h, fun h => ?_⟩
  cases hl : lstW can c f n with
  | none => rw [lstW_none hl p hp] at hc; exact Bool.noConfusion hc
  | some l =>
    by_cases e : p = l
    · rw [e]
    · have h1 := lstW_max hl p hp hc e
      have h2 := h l (lstW_lt hl).1 (lstW_lt hl).2 (fun z => e z.symm)
      rw [ltr_asym h1] at h2; exact Bool.noConfusion h2
/-- how many come later -/
def rkP (can : Nat → Bool) (c f : Nat → Nat) (p : Nat) : Nat → Bool := fun o => decide (o ≠ p) && (can o && ltr c f o p)
theorem rkP_iff {can : Nat → Bool} {c f : Nat → Nat} {p o : Nat} : rkP can c f p o = true ↔ o ≠ p ∧ can o = true ∧ ltr c f o p = true := by
  unfold rkP
  simp only [Bool.and_eq_true, decide_eq_true_eq]
theorem rkP_f {can : Nat → Bool} {c f : Nat → Nat} {p o : Nat} (h : ¬ (o ≠ p ∧ can o = true ∧ ltr c f o p = true)) : rkP can c f p o = false := by
  cases e : rkP can c f p o with
  | false => rfl
  | true => exact absurd (rkP_iff.mp e) h
def clOk (can : Nat → Bool) (c f : Nat → Nat) (P many : Nat) (v : Int32) : Prop := (cN can P < many → v = mI) ∧ (many ≤ cN can P → ∀ i, i < 32 → bN v i = if i < P ∧ can i = true ∧ cN (rkP can c f i) P < many then 1 else 0)
theorem clOk_eq {can : Nat → Bool} {c f : Nat → Nat} {P many : Nat} {v u : Int32} (h : clOk can c f P many v) (h' : clOk can c f P many u) : v = u := by
  rcases Nat.lt_or_ge (cN can P) many with e | e
  · rw [h.1 e, h'.1 e]
  · exact bit_ext (fun i hi => by rw [h.2 e i hi, h'.2 e i hi])
theorem bN_01 (v : Int32) (p : Nat) : bN v p = 0 ∨ bN v p = 1 := by
  have := bN_le v p
  omega
/-- the latest ones so far -/
def uC (can : Nat → Bool) (c f : Nat → Nat) (P : Nat) (b : Int32) (i : Nat) : Prop := (∀ q, q < 32 → bN b q = 1 → q < P ∧ can q = true) ∧ cN (fun q => decide (bN b q = 1)) P = i ∧ ∀ q p, q < P → p < P → bN b q = 1 → bN b p = 0 → can p = true → ltr c f q p = true
theorem uC_end {can : Nat → Bool} {c f : Nat → Nat} {P i : Nat} {b : Int32} (h : uC can c f P b i) : clOk can c f P i b := by
  obtain ⟨h1, h2, h3⟩ := h
  have hP : ∀ q, q < P → bN b q = 1 → can q = true := fun q hq hb => by
    rcases Nat.lt_or_ge q 32 with e | e
    · exact (h1 q e hb).2
    · unfold bN at hb; rw [b_big e] at hb; cases hb
  refine ⟨fun h => ?_, fun _ j hj => ?_⟩
  · have := cN_sub (p := fun q => decide (bN b q = 1)) (q := can) (n := P) (fun k hk e => hP k hk (of_decide_eq_true e))
    omega
  · rcases bN_01 b j with e | e
    · rw [e, if_neg]
      rintro ⟨g1, g2, g3⟩
      have := cN_sub (p := fun q => decide (bN b q = 1)) (q := rkP can c f j) (n := P) (fun k hk z => by
        have z := of_decide_eq_true z
        exact rkP_iff.mpr ⟨(fun y => by rw [y, e] at z; exact Nat.noConfusion z), hP k hk z, h3 k j hk g1 z e g2⟩)
      omega
    · obtain ⟨g1, g2⟩ := h1 j hj e
      suffices hr : cN (rkP can c f j) P < i by rw [e, if_pos ⟨g1, g2, hr⟩]
      have a1 := cN_ins (p := rkP can c f j) (q := fun q => decide (q = j) || rkP can c f j q) (n := P) g1 (rkP_f (fun z => z.1 rfl)) (by simp) (fun k _ hk => by simp [hk])
      have a2 := cN_sub (p := fun q => decide (q = j) || rkP can c f j q) (q := fun q => decide (bN b q = 1)) (n := P) (fun k hk z => by
        rcases (Bool.or_eq_true _ _).mp z with z | z
        · rw [of_decide_eq_true z, e]; rfl
        · obtain ⟨z1, z2, z3⟩ := rkP_iff.mp z
          rcases bN_01 b k with y | y
          · have := h3 j k g1 hk e y z2
            rw [ltr_asym this] at z3; exact Bool.noConfusion z3
          · rw [y]; rfl)
      omega
theorem uC_none {can : Nat → Bool} {c f : Nat → Nat} {P i many : Nat} {b : Int32} (h : uC can c f P b i) (hn : ∀ q, q < P → bN b q = 0 → can q = false) (hi : i < many) : clOk can c f P many mI := by
  have := cN_sub (p := can) (q := fun q => decide (bN b q = 1)) (n := P) (fun k hk e => by
    rcases bN_01 b k with y | y
    · rw [hn k hk y] at e; exact Bool.noConfusion e
    · rw [y]; rfl)
  rw [h.2.1] at this
  exact ⟨fun _ => rfl, fun z => by omega⟩
theorem uC_step {can : Nat → Bool} {c f : Nat → Nat} {P i l : Nat} {b : Int32} (hP : P ≤ 8) (h : uC can c f P b i) (hl : l < P) (h0 : bN b l = 0) (hc : can l = true) (hm : ∀ q, q < P → bN b q = 0 → can q = true → q ≠ l → ltr c f l q = true) : uC can c f P (b ||| (nI 1 <<< (nI l &&& nI 31))) (i + 1) := by
  obtain ⟨h1, h2, h3⟩ := h
  have e : ∀ q, q < 32 → bN (b ||| (nI 1 <<< (nI l &&& nI 31))) q = if q = l then 1 else bN b q := fun q hq => bit_or hq (by omega)
  refine ⟨fun q hq hb => ?_, ?_, fun q p hq hp hbq hbp hcp => ?_⟩
  · rw [e q hq] at hb
    by_cases z : q = l
    · rw [z]; exact ⟨hl, hc⟩
    · rw [if_neg z] at hb; exact h1 q hq hb
  · rw [cN_ins (p := fun q => decide (bN b q = 1)) (l := l) hl (by rw [h0]; rfl) (by show decide _ = true; rw [e l (by omega), if_pos rfl]; rfl) (fun k hk hkl => by show decide _ = decide _; rw [e k (by omega), if_neg hkl]), h2]
  · rw [e q (by omega)] at hbq
    rw [e p (by omega)] at hbp
    by_cases zp : p = l
    · rw [if_pos zp] at hbp; cases hbp
    · rw [if_neg zp] at hbp
      by_cases z : q = l
      · rw [z]; exact hm p hp hbp hcp zp
      · rw [if_neg z] at hbq; exact h3 q p hq hp hbq hbp hcp
theorem canW_iff {t : Tn} {y : Yw} {v : Int32} {p : Nat} : canW t y v p = true ↔ bN v p = 0 ∧ canL t y p = true := by
  unfold canW
  simp only [Bool.and_eq_true, decide_eq_true_eq]
theorem x_club {t : Tn} {y : Yw} {ex : Ex} {o : wO} {w : wS} {d many : Nat} (T : XC t o w) (ho : tOk t) (h35 : ∀ p, p < tP t → w.2.1 35 p = oI (cam t ex y d p)) (h36 : ∀ p, p < tP t → w.2.1 36 p = nI (far t p d)) (hN : ∀ p, p < tP t → cmN t ex y d p < 2 ^ 30) (hm : many ≤ 6) : wpO (P_X9_club_24 o (fun w6 => some (.inl mI, w6)) (fun z7 w8 => some (.inl z7, w8)) 5000 (nI many) (nI 0) (nI 0) w) (fun r => r.2 = w ∧ ∃ v, r.1 = .inl v ∧ clOk (canL t y) (cmN t ex y d) (fun p => far t p d) (tP t) many v) := by
  have b1 := ho.1
  unfold P_X9_club_24
  refine wp_for many (fun i s => ∃ b : Int32, uC (canL t y) (cmN t ex y d) (fun p => far t p d) (tP t) b i ∧ s = (nI many, b, nI i, w)) ?_ (i := 0) (by omega) (by omega) ⟨nI 0, ⟨(fun q _ h => by rw [bit_0] at h; exact Nat.noConfusion h), ?_, (fun q p _ _ h => by rw [bit_0] at h; exact Nat.noConfusion h)⟩, rfl⟩
  · rintro i _ kk hi ⟨b, hb, rfl⟩ hkk
    show wpO (B_X9_club_24 o (fun x2 x4 x5 w => kk (x2, x4, x5, w)) _ _ (nI many) b (nI i) w) _
    unfold B_X9_club_24
    by_cases hlt : i < many
    · have el := x_lastWithout (v := b) T ho h35 h36 hN
      simp (disch := omega) only [xB_s, xB2_s, xGet_s, xPut_s, xAld_s, xAst_s, xIf_t, xBool_s, l0, l1, l2, l3, l4, l5, l6, l7, l8, l9, l10, l11, l12, l13, l15, l16, l17, l19, l20, l25, l27, l30, l31, l32, l33, l39, l40, l60, l61, l99, l100, l120, l256, l999, l1999, l99999, lm, nI_add, pk_mul, nI_leI, nI_ltI, nI_eq, wuS_1, wuS_2, wuA_1, wuA_21, wuA_22, nI_m1, m1_nI, nIlt_m1, m1lt_nI, Nat.reduceEqDiff, Nat.reduceAdd, Nat.reduceMul, Nat.reduceSub, Nat.reduceLT, Nat.reduceLeDiff, reduceIte, if_true, if_false, Bool.false_eq_true, Nat.add_zero, Nat.zero_add, ne_eq, not_false_eq_true, not_true_eq_false, Nat.not_lt_zero, Nat.add_left_cancel_iff, Nat.add_right_cancel_iff, eq_self, upd_s, pk_sub, nI_pm, Nat.add_sub_cancel, List.length_cons, List.length_nil, Nat.add_eq_zero_iff, Nat.succ_ne_zero, and_false, false_and, l14, l18, l21, l23, l24, l26, l28, l29, l34, l35, l36, l41, l42, l43, l45, l47, l48, l49, l50, l51, l52, l57, l58, l59, l62, l63, l64, l96, l97, l98, l101, l102, l103, l104, l105, l106, l107, l108, l109, l110, l111, l112, l113, l114, l115, l116, l117, l118, l119, l121, l122, l127, l255, l700, l1320, l1000000, show (many ≤ i) = False from eq_false (by omega), el]
      cases hl : lstW (canW t y b) (cmN t ex y d) (fun p => far t p d) (tP t) with
      | none =>
        simp (disch := omega) only [xB_s, xB2_s, xGet_s, xPut_s, xAld_s, xAst_s, xIf_t, xBool_s, l0, l1, l2, l3, l4, l5, l6, l7, l8, l9, l10, l11, l12, l13, l15, l16, l17, l19, l20, l25, l27, l30, l31, l32, l33, l39, l40, l60, l61, l99, l100, l120, l256, l999, l1999, l99999, lm, nI_add, pk_mul, nI_leI, nI_ltI, nI_eq, wuS_1, wuS_2, wuA_1, wuA_21, wuA_22, nI_m1, m1_nI, nIlt_m1, m1lt_nI, Nat.reduceEqDiff, Nat.reduceAdd, Nat.reduceMul, Nat.reduceSub, Nat.reduceLT, Nat.reduceLeDiff, reduceIte, if_true, if_false, Bool.false_eq_true, Nat.add_zero, Nat.zero_add, ne_eq, not_false_eq_true, not_true_eq_false, Nat.not_lt_zero, Nat.add_left_cancel_iff, Nat.add_right_cancel_iff, eq_self, upd_s, pk_sub, nI_pm, Nat.add_sub_cancel, List.length_cons, List.length_nil, Nat.add_eq_zero_iff, Nat.succ_ne_zero, and_false, false_and, l14, l18, l21, l23, l24, l26, l28, l29, l34, l35, l36, l41, l42, l43, l45, l47, l48, l49, l50, l51, l52, l57, l58, l59, l62, l63, l64, l96, l97, l98, l101, l102, l103, l104, l105, l106, l107, l108, l109, l110, l111, l112, l113, l114, l115, l116, l117, l118, l119, l121, l122, l127, l255, l700, l1320, l1000000, oI_n]
        refine wp_some ⟨rfl, mI, rfl, uC_none hb (fun q hq h0 => ?_) hlt⟩
        have := lstW_none hl q hq
        cases hc : canL t y q with
        | false => rfl
        | true => rw [canW_iff.mpr ⟨h0, hc⟩] at this; exact Bool.noConfusion this
      | some l =>
        obtain ⟨g1, g2⟩ := lstW_lt hl
        obtain ⟨g3, g4⟩ := canW_iff.mp g2
        simp (disch := omega) only [xB_s, xB2_s, xGet_s, xPut_s, xAld_s, xAst_s, xIf_t, xBool_s, l0, l1, l2, l3, l4, l5, l6, l7, l8, l9, l10, l11, l12, l13, l15, l16, l17, l19, l20, l25, l27, l30, l31, l32, l33, l39, l40, l60, l61, l99, l100, l120, l256, l999, l1999, l99999, lm, nI_add, pk_mul, nI_leI, nI_ltI, nI_eq, wuS_1, wuS_2, wuA_1, wuA_21, wuA_22, nI_m1, m1_nI, nIlt_m1, m1lt_nI, Nat.reduceEqDiff, Nat.reduceAdd, Nat.reduceMul, Nat.reduceSub, Nat.reduceLT, Nat.reduceLeDiff, reduceIte, if_true, if_false, Bool.false_eq_true, Nat.add_zero, Nat.zero_add, ne_eq, not_false_eq_true, not_true_eq_false, Nat.not_lt_zero, Nat.add_left_cancel_iff, Nat.add_right_cancel_iff, eq_self, upd_s, pk_sub, nI_pm, Nat.add_sub_cancel, List.length_cons, List.length_nil, Nat.add_eq_zero_iff, Nat.succ_ne_zero, and_false, false_and, l14, l18, l21, l23, l24, l26, l28, l29, l34, l35, l36, l41, l42, l43, l45, l47, l48, l49, l50, l51, l52, l57, l58, l59, l62, l63, l64, l96, l97, l98, l101, l102, l103, l104, l105, l106, l107, l108, l109, l110, l111, l112, l113, l114, l115, l116, l117, l118, l119, l121, l122, l127, l255, l700, l1320, l1000000, oI_s]
        exact hkk hlt _ ⟨_, uC_step b1 hb g1 g3 g4 (fun q hq h0 hc hne => lstW_max hl q hq (canW_iff.mpr ⟨h0, hc⟩) hne), rfl⟩
    · obtain rfl : i = many := by omega
      simp (disch := omega) only [xB_s, xB2_s, xGet_s, xPut_s, xAld_s, xAst_s, xIf_t, xBool_s, l0, l1, l2, l3, l4, l5, l6, l7, l8, l9, l10, l11, l12, l13, l15, l16, l17, l19, l20, l25, l27, l30, l31, l32, l33, l39, l40, l60, l61, l99, l100, l120, l256, l999, l1999, l99999, lm, nI_add, pk_mul, nI_leI, nI_ltI, nI_eq, wuS_1, wuS_2, wuA_1, wuA_21, wuA_22, nI_m1, m1_nI, nIlt_m1, m1lt_nI, Nat.reduceEqDiff, Nat.reduceAdd, Nat.reduceMul, Nat.reduceSub, Nat.reduceLT, Nat.reduceLeDiff, reduceIte, if_true, if_false, Bool.false_eq_true, Nat.add_zero, Nat.zero_add, ne_eq, not_false_eq_true, not_true_eq_false, Nat.not_lt_zero, Nat.add_left_cancel_iff, Nat.add_right_cancel_iff, eq_self, upd_s, pk_sub, nI_pm, Nat.add_sub_cancel, List.length_cons, List.length_nil, Nat.add_eq_zero_iff, Nat.succ_ne_zero, and_false, false_and, l14, l18, l21, l23, l24, l26, l28, l29, l34, l35, l36, l41, l42, l43, l45, l47, l48, l49, l50, l51, l52, l57, l58, l59, l62, l63, l64, l96, l97, l98, l101, l102, l103, l104, l105, l106, l107, l108, l109, l110, l111, l112, l113, l114, l115, l116, l117, l118, l119, l121, l122, l127, l255, l700, l1320, l1000000, Nat.le_refl]
      exact wp_some ⟨rfl, b, rfl, uC_end hb⟩
  · rw [cN_cong (q := fun _ => false) (fun k hk => by rw [bit_0]; rfl)]
    have : ∀ n, cN (fun _ => false) n = 0 := fun n => by
      induction n with
      | zero => rfl
      | succ n ih => rw [cN_n rfl, ih]
    exact this _
theorem canL_iff {t : Tn} {y : Yw} {p : Nat} : canL t y p = true ↔ cmB t y p = true ∧ tK t p ≠ 1 := by
  unfold canL
  simp only [Bool.and_eq_true, decide_eq_true_eq]
theorem canL_f {t : Tn} {y : Yw} {p : Nat} (h : ¬ (cmB t y p = true ∧ tK t p ≠ 1)) : canL t y p = false := by
  cases e : canL t y p with
  | false => rfl
  | true => exact absurd (canL_iff.mp e) h
theorem m_club {t : Tn} {y : Yw} {ex : Ex} {w : wS} {d many : Nat} (T : TM t w) (ho : tOk t) (hd : d < tD t) (dc : ∀ p, p < tP t → L_X10_doesCome (nI 0) (nI p) w = some (nI (cmB t y p).toNat, w)) (m5 : ∀ p, p < tP t → w.2.1 22 (8 * d + p) = oI (cam t ex y d p)) (hN : ∀ p, cmN t ex y d p < 2 ^ 30) (hm : many ≤ 6) : wpO (P_X10_club_43 (fun z34 z35 z36 w37 => if z34 ≤ z36 then J_X10_club_184 z35 w37 else J_X10_club_184 mI w37) 5000 (nI d) (nI many) (nI 0) (nI 0) (nI 0) w) (fun r => r.2 = w ∧ clOk (canL t y) (cmN t ex y d) (fun p => far t p d) (tP t) many r.1) := by
  have b1 := ho.1
  unfold P_X10_club_43
  refine wp_for (tP t) (fun k s => ∃ v : Int32, (∀ i, i < 32 → bN v i = if i < k ∧ canL t y i = true ∧ cN (rkP (canL t y) (cmN t ex y d) (fun p => far t p d) i) (tP t) < many then 1 else 0) ∧ s = (nI d, nI many, v, nI (cN (canL t y) k), nI k, w)) ?_ (i := 0) (by omega) (by omega) ⟨nI 0, fun i hi => by rw [bit_0, if_neg (by omega)], rfl⟩
  rintro k _ kk hk ⟨v, hv, rfl⟩ hkk
  show wpO (B_X10_club_43 (fun x1 x2 x3 x4 x5 w => kk (x1, x2, x3, x4, x5, w)) _ (nI d) (nI many) v (nI (cN (canL t y) k)) (nI k) w) _
  unfold B_X10_club_43 J_X10_club_167
  by_cases hlt : k < tP t
  · have hK := ho.2.2.2.1 k
    simp (disch := omega) only [xB_s, xB2_s, xGet_s, xPut_s, xAld_s, xAst_s, xIf_t, xBool_s, l0, l1, l2, l3, l4, l5, l6, l7, l8, l9, l10, l11, l12, l13, l15, l16, l17, l19, l20, l25, l27, l30, l31, l32, l33, l39, l40, l60, l61, l99, l100, l120, l256, l999, l1999, l99999, lm, nI_add, pk_mul, nI_leI, nI_ltI, nI_eq, wuS_1, wuS_2, wuA_1, wuA_21, wuA_22, nI_m1, m1_nI, nIlt_m1, m1lt_nI, Nat.reduceEqDiff, Nat.reduceAdd, Nat.reduceMul, Nat.reduceSub, Nat.reduceLT, Nat.reduceLeDiff, reduceIte, if_true, if_false, Bool.false_eq_true, Nat.add_zero, Nat.zero_add, ne_eq, not_false_eq_true, not_true_eq_false, Nat.not_lt_zero, Nat.add_left_cancel_iff, Nat.add_right_cancel_iff, eq_self, upd_s, pk_sub, nI_pm, Nat.add_sub_cancel, List.length_cons, List.length_nil, Nat.add_eq_zero_iff, Nat.succ_ne_zero, and_false, false_and, l14, l18, l21, l23, l24, l26, l28, l29, l34, l35, l36, l41, l42, l43, l45, l47, l48, l49, l50, l51, l52, l57, l58, l59, l62, l63, l64, l96, l97, l98, l101, l102, l103, l104, l105, l106, l107, l108, l109, l110, l111, l112, l113, l114, l115, l116, l117, l118, l119, l121, l122, l127, l255, l700, l1320, l1000000, T.1, show (tP t ≤ k) = False from eq_false (by omega), T.2.2.2.1 k hlt, dc k hlt]
    have sk : canL t y k = false → wpO (kk (nI d, nI many, v, nI (cN (canL t y) k), nI (k + 1), w)) (fun r => r.2 = w ∧ clOk (canL t y) (cmN t ex y d) (fun p => far t p d) (tP t) many r.1) := fun hc => hkk hlt _ ⟨v, fun i hi => by
      rw [hv i hi]
      by_cases z : i < k ∧ canL t y i = true ∧ cN (rkP (canL t y) (cmN t ex y d) (fun p => far t p d) i) (tP t) < many
      · rw [if_pos z, if_pos ⟨by omega, z.2⟩]
      · rw [if_neg z, if_neg]
        rintro ⟨z1, z2, z3⟩
        by_cases zi : i = k
        · rw [zi, hc] at z2; exact Bool.noConfusion z2
        · exact z ⟨by omega, z2, z3⟩, by rw [cN_n hc]⟩
    by_cases hmu : tK t k = 1
    · rw [if_pos hmu]
      exact sk (canL_f (fun z => z.2 hmu))
    · rw [if_neg hmu]
      cases hcm : cmB t y k with
      | false =>
        simp (disch := omega) only [xB_s, xB2_s, xGet_s, xPut_s, xAld_s, xAst_s, xIf_t, xBool_s, l0, l1, l2, l3, l4, l5, l6, l7, l8, l9, l10, l11, l12, l13, l15, l16, l17, l19, l20, l25, l27, l30, l31, l32, l33, l39, l40, l60, l61, l99, l100, l120, l256, l999, l1999, l99999, lm, nI_add, pk_mul, nI_leI, nI_ltI, nI_eq, wuS_1, wuS_2, wuA_1, wuA_21, wuA_22, nI_m1, m1_nI, nIlt_m1, m1lt_nI, Nat.reduceEqDiff, Nat.reduceAdd, Nat.reduceMul, Nat.reduceSub, Nat.reduceLT, Nat.reduceLeDiff, reduceIte, if_true, if_false, Bool.false_eq_true, Nat.add_zero, Nat.zero_add, ne_eq, not_false_eq_true, not_true_eq_false, Nat.not_lt_zero, Nat.add_left_cancel_iff, Nat.add_right_cancel_iff, eq_self, upd_s, pk_sub, nI_pm, Nat.add_sub_cancel, List.length_cons, List.length_nil, Nat.add_eq_zero_iff, Nat.succ_ne_zero, and_false, false_and, l14, l18, l21, l23, l24, l26, l28, l29, l34, l35, l36, l41, l42, l43, l45, l47, l48, l49, l50, l51, l52, l57, l58, l59, l62, l63, l64, l96, l97, l98, l101, l102, l103, l104, l105, l106, l107, l108, l109, l110, l111, l112, l113, l114, l115, l116, l117, l118, l119, l121, l122, l127, l255, l700, l1320, l1000000, Bool.toNat_false]
        exact sk (canL_f (fun z => by rw [hcm] at z; exact Bool.noConfusion z.1))
      | true =>
        have hck : canL t y k = true := canL_iff.mpr ⟨hcm, hmu⟩
        have ek := m5 k hlt
        rw [cam_t hcm] at ek
        simp (disch := omega) only [xB_s, xB2_s, xGet_s, xPut_s, xAld_s, xAst_s, xIf_t, xBool_s, l0, l1, l2, l3, l4, l5, l6, l7, l8, l9, l10, l11, l12, l13, l15, l16, l17, l19, l20, l25, l27, l30, l31, l32, l33, l39, l40, l60, l61, l99, l100, l120, l256, l999, l1999, l99999, lm, nI_add, pk_mul, nI_leI, nI_ltI, nI_eq, wuS_1, wuS_2, wuA_1, wuA_21, wuA_22, nI_m1, m1_nI, nIlt_m1, m1lt_nI, Nat.reduceEqDiff, Nat.reduceAdd, Nat.reduceMul, Nat.reduceSub, Nat.reduceLT, Nat.reduceLeDiff, reduceIte, if_true, if_false, Bool.false_eq_true, Nat.add_zero, Nat.zero_add, ne_eq, not_false_eq_true, not_true_eq_false, Nat.not_lt_zero, Nat.add_left_cancel_iff, Nat.add_right_cancel_iff, eq_self, upd_s, pk_sub, nI_pm, Nat.add_sub_cancel, List.length_cons, List.length_nil, Nat.add_eq_zero_iff, Nat.succ_ne_zero, and_false, false_and, l14, l18, l21, l23, l24, l26, l28, l29, l34, l35, l36, l41, l42, l43, l45, l47, l48, l49, l50, l51, l52, l57, l58, l59, l62, l63, l64, l96, l97, l98, l101, l102, l103, l104, l105, l106, l107, l108, l109, l110, l111, l112, l113, l114, l115, l116, l117, l118, l119, l121, l122, l127, l255, l700, l1320, l1000000, Bool.toNat_true]
        unfold P_X10_club_82
        refine wp_for (tP t) (fun j s => s = (nI d, nI many, v, nI (cN (canL t y) k), nI k, nI (cN (rkP (canL t y) (cmN t ex y d) (fun p => far t p d) k) j), nI j, w)) ?_ (i := 0) (by omega) (by omega) rfl
        rintro j _ kk2 hj rfl hkk2
        show wpO (B_X10_club_82 (fun x1 x2 x3 x4 x5 x6 x7 w => kk2 (x1, x2, x3, x4, x5, x6, x7, w)) _ (nI d) (nI many) v (nI (cN (canL t y) k)) (nI k) (nI _) (nI j) w) _
        unfold B_X10_club_82 J_X10_club_137 J_X10_club_138
        by_cases hjl : j < tP t
        · have hKj := ho.2.2.2.1 j
          have hNj := hN j
          have hNk := hN k
          simp (disch := omega) only [xB_s, xB2_s, xGet_s, xPut_s, xAld_s, xAst_s, xIf_t, xBool_s, l0, l1, l2, l3, l4, l5, l6, l7, l8, l9, l10, l11, l12, l13, l15, l16, l17, l19, l20, l25, l27, l30, l31, l32, l33, l39, l40, l60, l61, l99, l100, l120, l256, l999, l1999, l99999, lm, nI_add, pk_mul, nI_leI, nI_ltI, nI_eq, wuS_1, wuS_2, wuA_1, wuA_21, wuA_22, nI_m1, m1_nI, nIlt_m1, m1lt_nI, Nat.reduceEqDiff, Nat.reduceAdd, Nat.reduceMul, Nat.reduceSub, Nat.reduceLT, Nat.reduceLeDiff, reduceIte, if_true, if_false, Bool.false_eq_true, Nat.add_zero, Nat.zero_add, ne_eq, not_false_eq_true, not_true_eq_false, Nat.not_lt_zero, Nat.add_left_cancel_iff, Nat.add_right_cancel_iff, eq_self, upd_s, pk_sub, nI_pm, Nat.add_sub_cancel, List.length_cons, List.length_nil, Nat.add_eq_zero_iff, Nat.succ_ne_zero, and_false, false_and, l14, l18, l21, l23, l24, l26, l28, l29, l34, l35, l36, l41, l42, l43, l45, l47, l48, l49, l50, l51, l52, l57, l58, l59, l62, l63, l64, l96, l97, l98, l101, l102, l103, l104, l105, l106, l107, l108, l109, l110, l111, l112, l113, l114, l115, l116, l117, l118, l119, l121, l122, l127, l255, l700, l1320, l1000000, T.1, show (tP t ≤ j) = False from eq_false (by omega), T.2.2.2.1 j hjl, dc j hjl]
          have nx : ¬ (j ≠ k ∧ canL t y j = true ∧ ltr (cmN t ex y d) (fun p => far t p d) j k = true) → wpO (kk2 (nI d, nI many, v, nI (cN (canL t y) k), nI k, nI (cN (rkP (canL t y) (cmN t ex y d) (fun p => far t p d) k) j), nI (j + 1), w)) (fun r => r.2 = w ∧ clOk (canL t y) (cmN t ex y d) (fun p => far t p d) (tP t) many r.1) := fun z => hkk2 hjl _ (by rw [cN_n (rkP_f z)])
          by_cases hjk : j = k
          · rw [if_pos hjk]
            exact nx (fun z => z.1 hjk)
          · rw [if_neg hjk]
            by_cases hmj : tK t j = 1
            · rw [if_pos hmj]
              exact nx (fun z => (canL_iff.mp z.2.1).2 hmj)
            · rw [if_neg hmj]
              cases hcj : cmB t y j with
              | false =>
                simp (disch := omega) only [xB_s, xB2_s, xGet_s, xPut_s, xAld_s, xAst_s, xIf_t, xBool_s, l0, l1, l2, l3, l4, l5, l6, l7, l8, l9, l10, l11, l12, l13, l15, l16, l17, l19, l20, l25, l27, l30, l31, l32, l33, l39, l40, l60, l61, l99, l100, l120, l256, l999, l1999, l99999, lm, nI_add, pk_mul, nI_leI, nI_ltI, nI_eq, wuS_1, wuS_2, wuA_1, wuA_21, wuA_22, nI_m1, m1_nI, nIlt_m1, m1lt_nI, Nat.reduceEqDiff, Nat.reduceAdd, Nat.reduceMul, Nat.reduceSub, Nat.reduceLT, Nat.reduceLeDiff, reduceIte, if_true, if_false, Bool.false_eq_true, Nat.add_zero, Nat.zero_add, ne_eq, not_false_eq_true, not_true_eq_false, Nat.not_lt_zero, Nat.add_left_cancel_iff, Nat.add_right_cancel_iff, eq_self, upd_s, pk_sub, nI_pm, Nat.add_sub_cancel, List.length_cons, List.length_nil, Nat.add_eq_zero_iff, Nat.succ_ne_zero, and_false, false_and, l14, l18, l21, l23, l24, l26, l28, l29, l34, l35, l36, l41, l42, l43, l45, l47, l48, l49, l50, l51, l52, l57, l58, l59, l62, l63, l64, l96, l97, l98, l101, l102, l103, l104, l105, l106, l107, l108, l109, l110, l111, l112, l113, l114, l115, l116, l117, l118, l119, l121, l122, l127, l255, l700, l1320, l1000000, Bool.toNat_false]
                exact nx (fun z => by have := (canL_iff.mp z.2.1).1; rw [hcj] at this; exact Bool.noConfusion this)
              | true =>
                have ej := m5 j hjl
                rw [cam_t hcj] at ej
                have el := m_isLater (c := cmN t ex y d) T ho hjl hlt hd ej ek (by omega) (by omega)
                simp (disch := omega) only [xB_s, xB2_s, xGet_s, xPut_s, xAld_s, xAst_s, xIf_t, xBool_s, l0, l1, l2, l3, l4, l5, l6, l7, l8, l9, l10, l11, l12, l13, l15, l16, l17, l19, l20, l25, l27, l30, l31, l32, l33, l39, l40, l60, l61, l99, l100, l120, l256, l999, l1999, l99999, lm, nI_add, pk_mul, nI_leI, nI_ltI, nI_eq, wuS_1, wuS_2, wuA_1, wuA_21, wuA_22, nI_m1, m1_nI, nIlt_m1, m1lt_nI, Nat.reduceEqDiff, Nat.reduceAdd, Nat.reduceMul, Nat.reduceSub, Nat.reduceLT, Nat.reduceLeDiff, reduceIte, if_true, if_false, Bool.false_eq_true, Nat.add_zero, Nat.zero_add, ne_eq, not_false_eq_true, not_true_eq_false, Nat.not_lt_zero, Nat.add_left_cancel_iff, Nat.add_right_cancel_iff, eq_self, upd_s, pk_sub, nI_pm, Nat.add_sub_cancel, List.length_cons, List.length_nil, Nat.add_eq_zero_iff, Nat.succ_ne_zero, and_false, false_and, l14, l18, l21, l23, l24, l26, l28, l29, l34, l35, l36, l41, l42, l43, l45, l47, l48, l49, l50, l51, l52, l57, l58, l59, l62, l63, l64, l96, l97, l98, l101, l102, l103, l104, l105, l106, l107, l108, l109, l110, l111, l112, l113, l114, l115, l116, l117, l118, l119, l121, l122, l127, l255, l700, l1320, l1000000, Bool.toNat_true, el]
                cases gl : ltr (cmN t ex y d) (fun p => far t p d) j k with
                | false =>
                  simp (disch := omega) only [xB_s, xB2_s, xGet_s, xPut_s, xAld_s, xAst_s, xIf_t, xBool_s, l0, l1, l2, l3, l4, l5, l6, l7, l8, l9, l10, l11, l12, l13, l15, l16, l17, l19, l20, l25, l27, l30, l31, l32, l33, l39, l40, l60, l61, l99, l100, l120, l256, l999, l1999, l99999, lm, nI_add, pk_mul, nI_leI, nI_ltI, nI_eq, wuS_1, wuS_2, wuA_1, wuA_21, wuA_22, nI_m1, m1_nI, nIlt_m1, m1lt_nI, Nat.reduceEqDiff, Nat.reduceAdd, Nat.reduceMul, Nat.reduceSub, Nat.reduceLT, Nat.reduceLeDiff, reduceIte, if_true, if_false, Bool.false_eq_true, Nat.add_zero, Nat.zero_add, ne_eq, not_false_eq_true, not_true_eq_false, Nat.not_lt_zero, Nat.add_left_cancel_iff, Nat.add_right_cancel_iff, eq_self, upd_s, pk_sub, nI_pm, Nat.add_sub_cancel, List.length_cons, List.length_nil, Nat.add_eq_zero_iff, Nat.succ_ne_zero, and_false, false_and, l14, l18, l21, l23, l24, l26, l28, l29, l34, l35, l36, l41, l42, l43, l45, l47, l48, l49, l50, l51, l52, l57, l58, l59, l62, l63, l64, l96, l97, l98, l101, l102, l103, l104, l105, l106, l107, l108, l109, l110, l111, l112, l113, l114, l115, l116, l117, l118, l119, l121, l122, l127, l255, l700, l1320, l1000000, Bool.toNat_false]
                  exact nx (fun z => by rw [gl] at z; exact Bool.noConfusion z.2.2)
                | true =>
                  simp (disch := omega) only [xB_s, xB2_s, xGet_s, xPut_s, xAld_s, xAst_s, xIf_t, xBool_s, l0, l1, l2, l3, l4, l5, l6, l7, l8, l9, l10, l11, l12, l13, l15, l16, l17, l19, l20, l25, l27, l30, l31, l32, l33, l39, l40, l60, l61, l99, l100, l120, l256, l999, l1999, l99999, lm, nI_add, pk_mul, nI_leI, nI_ltI, nI_eq, wuS_1, wuS_2, wuA_1, wuA_21, wuA_22, nI_m1, m1_nI, nIlt_m1, m1lt_nI, Nat.reduceEqDiff, Nat.reduceAdd, Nat.reduceMul, Nat.reduceSub, Nat.reduceLT, Nat.reduceLeDiff, reduceIte, if_true, if_false, Bool.false_eq_true, Nat.add_zero, Nat.zero_add, ne_eq, not_false_eq_true, not_true_eq_false, Nat.not_lt_zero, Nat.add_left_cancel_iff, Nat.add_right_cancel_iff, eq_self, upd_s, pk_sub, nI_pm, Nat.add_sub_cancel, List.length_cons, List.length_nil, Nat.add_eq_zero_iff, Nat.succ_ne_zero, and_false, false_and, l14, l18, l21, l23, l24, l26, l28, l29, l34, l35, l36, l41, l42, l43, l45, l47, l48, l49, l50, l51, l52, l57, l58, l59, l62, l63, l64, l96, l97, l98, l101, l102, l103, l104, l105, l106, l107, l108, l109, l110, l111, l112, l113, l114, l115, l116, l117, l118, l119, l121, l122, l127, l255, l700, l1320, l1000000, Bool.toNat_true]
                  exact hkk2 hjl _ (by rw [cN_y (rkP_iff.mpr ⟨hjk, canL_iff.mpr ⟨hcj, hmj⟩, gl⟩)])
        · obtain rfl : j = tP t := by omega
          have hr := cN_le (rkP (canL t y) (cmN t ex y d) (fun p => far t p d) k) (tP t)
          simp (disch := omega) only [xB_s, xB2_s, xGet_s, xPut_s, xAld_s, xAst_s, xIf_t, xBool_s, l0, l1, l2, l3, l4, l5, l6, l7, l8, l9, l10, l11, l12, l13, l15, l16, l17, l19, l20, l25, l27, l30, l31, l32, l33, l39, l40, l60, l61, l99, l100, l120, l256, l999, l1999, l99999, lm, nI_add, pk_mul, nI_leI, nI_ltI, nI_eq, wuS_1, wuS_2, wuA_1, wuA_21, wuA_22, nI_m1, m1_nI, nIlt_m1, m1lt_nI, Nat.reduceEqDiff, Nat.reduceAdd, Nat.reduceMul, Nat.reduceSub, Nat.reduceLT, Nat.reduceLeDiff, reduceIte, if_true, if_false, Bool.false_eq_true, Nat.add_zero, Nat.zero_add, ne_eq, not_false_eq_true, not_true_eq_false, Nat.not_lt_zero, Nat.add_left_cancel_iff, Nat.add_right_cancel_iff, eq_self, upd_s, pk_sub, nI_pm, Nat.add_sub_cancel, List.length_cons, List.length_nil, Nat.add_eq_zero_iff, Nat.succ_ne_zero, and_false, false_and, l14, l18, l21, l23, l24, l26, l28, l29, l34, l35, l36, l41, l42, l43, l45, l47, l48, l49, l50, l51, l52, l57, l58, l59, l62, l63, l64, l96, l97, l98, l101, l102, l103, l104, l105, l106, l107, l108, l109, l110, l111, l112, l113, l114, l115, l116, l117, l118, l119, l121, l122, l127, l255, l700, l1320, l1000000, T.1, Nat.le_refl, J_X10_club_165, J_X10_club_167, or_0]
          by_cases hrk : many ≤ cN (rkP (canL t y) (cmN t ex y d) (fun p => far t p d) k) (tP t)
          · rw [if_pos hrk]
            refine hkk hlt _ ⟨v, fun i hi => ?_, by rw [cN_y hck]⟩
            rw [hv i hi]
            by_cases z : i < k ∧ canL t y i = true ∧ cN (rkP (canL t y) (cmN t ex y d) (fun p => far t p d) i) (tP t) < many
            · rw [if_pos z, if_pos ⟨by omega, z.2⟩]
            · rw [if_neg z, if_neg]
              rintro ⟨z1, z2, z3⟩
              by_cases zi : i = k
              · rw [zi] at z3; omega
              · exact z ⟨by omega, z2, z3⟩
          · rw [if_neg hrk]
            refine hkk hlt _ ⟨v ||| (nI 1 <<< (nI k &&& nI 31)), fun i hi => ?_, by rw [cN_y hck]⟩
            rw [bit_or hi (by omega), hv i hi]
            by_cases zi : i = k
            · subst zi
              rw [if_pos rfl, if_pos ⟨by omega, hck, by omega⟩]
            · rw [if_neg zi]
              by_cases z : i < k ∧ canL t y i = true ∧ cN (rkP (canL t y) (cmN t ex y d) (fun p => far t p d) i) (tP t) < many
              · rw [if_pos z, if_pos ⟨by omega, z.2⟩]
              · rw [if_neg z, if_neg]
                rintro ⟨z1, z2, z3⟩
                exact z ⟨by omega, z2, z3⟩
  · obtain rfl : k = tP t := by omega
    have hr := cN_le (canL t y) (tP t)
    simp (disch := omega) only [xB_s, xB2_s, xGet_s, xPut_s, xAld_s, xAst_s, xIf_t, xBool_s, l0, l1, l2, l3, l4, l5, l6, l7, l8, l9, l10, l11, l12, l13, l15, l16, l17, l19, l20, l25, l27, l30, l31, l32, l33, l39, l40, l60, l61, l99, l100, l120, l256, l999, l1999, l99999, lm, nI_add, pk_mul, nI_leI, nI_ltI, nI_eq, wuS_1, wuS_2, wuA_1, wuA_21, wuA_22, nI_m1, m1_nI, nIlt_m1, m1lt_nI, Nat.reduceEqDiff, Nat.reduceAdd, Nat.reduceMul, Nat.reduceSub, Nat.reduceLT, Nat.reduceLeDiff, reduceIte, if_true, if_false, Bool.false_eq_true, Nat.add_zero, Nat.zero_add, ne_eq, not_false_eq_true, not_true_eq_false, Nat.not_lt_zero, Nat.add_left_cancel_iff, Nat.add_right_cancel_iff, eq_self, upd_s, pk_sub, nI_pm, Nat.add_sub_cancel, List.length_cons, List.length_nil, Nat.add_eq_zero_iff, Nat.succ_ne_zero, and_false, false_and, l14, l18, l21, l23, l24, l26, l28, l29, l34, l35, l36, l41, l42, l43, l45, l47, l48, l49, l50, l51, l52, l57, l58, l59, l62, l63, l64, l96, l97, l98, l101, l102, l103, l104, l105, l106, l107, l108, l109, l110, l111, l112, l113, l114, l115, l116, l117, l118, l119, l121, l122, l127, l255, l700, l1320, l1000000, T.1, Nat.le_refl, J_X10_club_184]
    by_cases hn : many ≤ cN (canL t y) (tP t)
    · rw [if_pos hn]
      exact wp_some ⟨rfl, fun z => by omega, fun _ => hv⟩
    · rw [if_neg hn]
      exact wp_some ⟨rfl, fun _ => rfl, fun z => absurd z hn⟩
theorem q_club {t : Tn} {y : Yw} {o : wO} {wx wm : wS} {a1 a2 : Int32} (h : PQ t y o wx wm) : R2 (L_X9_club o a1 a2 wx) (L_X10_club a1 a2 wm) (QA cdN wx wm) := by
  obtain ⟨w1, e1, q1, z1, T1, Y1, h1⟩ := h.put
  have hh := h
  obtain ⟨⟨ho, hy, hD⟩, ⟨hT, hY⟩, _⟩ := hh
  have b1 := ho.1
  unfold L_X9_club L_X10_club J_X10_club_28
  simp only [xB_s, xB2_s, xIf_t, xBT_n, xBT_e, l0, l1, l2, l3, l4, l5, l6, l7, l8, l9, l10, l11, l12, l13, l15, l16, l17, l19, l20, l25, l27, l30, l31, l32, l33, l39, l40, l60, l61, l99, l100, l120, l256, l999, l1999, l99999, lm, l14, l18, l21, l23, l24, l26, l28, l29, l34, l35, l36, l41, l42, l43, l45, l47, l48, l49, l50, l51, l52, l57, l58, l59, l62, l63, l64, l96, l97, l98, l101, l102, l103, l104, l105, l106, l107, l108, l109, l110, l111, l112, l113, l114, l115, l116, l117, l118, l119, l121, l122, l127, l255, l700, l1320, l1000000, e1]
  refine g_duty hT ho T1.2.1 z1 (by simp (disch := omega) only [xB_s, xB2_s, xGet_s, xPut_s, xAld_s, xAst_s, xIf_t, xBool_s, l0, l1, l2, l3, l4, l5, l6, l7, l8, l9, l10, l11, l12, l13, l15, l16, l17, l19, l20, l25, l27, l30, l31, l32, l33, l39, l40, l60, l61, l99, l100, l120, l256, l999, l1999, l99999, lm, nI_add, pk_mul, nI_leI, nI_ltI, nI_eq, wuS_1, wuS_2, wuA_1, wuA_21, wuA_22, nI_m1, m1_nI, nIlt_m1, m1lt_nI, Nat.reduceEqDiff, Nat.reduceAdd, Nat.reduceMul, Nat.reduceSub, Nat.reduceLT, Nat.reduceLeDiff, reduceIte, if_true, if_false, Bool.false_eq_true, Nat.add_zero, Nat.zero_add, ne_eq, not_false_eq_true, not_true_eq_false, Nat.not_lt_zero, Nat.add_left_cancel_iff, Nat.add_right_cancel_iff, eq_self, upd_s, pk_sub, nI_pm, Nat.add_sub_cancel, List.length_cons, List.length_nil, Nat.add_eq_zero_iff, Nat.succ_ne_zero, and_false, false_and, l14, l18, l21, l23, l24, l26, l28, l29, l34, l35, l36, l41, l42, l43, l45, l47, l48, l49, l50, l51, l52, l57, l58, l59, l62, l63, l64, l96, l97, l98, l101, l102, l103, l104, l105, l106, l107, l108, l109, l110, l111, l112, l113, l114, l115, l116, l117, l118, l119, l121, l122, l127, l255, l700, l1320, l1000000]; exact QA.no q1) ?_
  rintro d hd rfl
  simp (disch := omega) only [xB_s, xB2_s, xGet_s, xPut_s, xAld_s, xAst_s, xIf_t, xBool_s, l0, l1, l2, l3, l4, l5, l6, l7, l8, l9, l10, l11, l12, l13, l15, l16, l17, l19, l20, l25, l27, l30, l31, l32, l33, l39, l40, l60, l61, l99, l100, l120, l256, l999, l1999, l99999, lm, nI_add, pk_mul, nI_leI, nI_ltI, nI_eq, wuS_1, wuS_2, wuA_1, wuA_21, wuA_22, nI_m1, m1_nI, nIlt_m1, m1lt_nI, Nat.reduceEqDiff, Nat.reduceAdd, Nat.reduceMul, Nat.reduceSub, Nat.reduceLT, Nat.reduceLeDiff, reduceIte, if_true, if_false, Bool.false_eq_true, Nat.add_zero, Nat.zero_add, ne_eq, not_false_eq_true, not_true_eq_false, Nat.not_lt_zero, Nat.add_left_cancel_iff, Nat.add_right_cancel_iff, eq_self, upd_s, pk_sub, nI_pm, Nat.add_sub_cancel, List.length_cons, List.length_nil, Nat.add_eq_zero_iff, Nat.succ_ne_zero, and_false, false_and, l14, l18, l21, l23, l24, l26, l28, l29, l34, l35, l36, l41, l42, l43, l45, l47, l48, l49, l50, l51, l52, l57, l58, l59, l62, l63, l64, l96, l97, l98, l101, l102, l103, l104, l105, l106, l107, l108, l109, l110, l111, l112, l113, l114, l115, l116, l117, l118, l119, l121, l122, l127, l255, l700, l1320, l1000000]
  refine g_range (by omega) (by omega) (by omega) (by omega) z1 (by simp (disch := omega) only [xB_s, xB2_s, xGet_s, xPut_s, xAld_s, xAst_s, xIf_t, xBool_s, l0, l1, l2, l3, l4, l5, l6, l7, l8, l9, l10, l11, l12, l13, l15, l16, l17, l19, l20, l25, l27, l30, l31, l32, l33, l39, l40, l60, l61, l99, l100, l120, l256, l999, l1999, l99999, lm, nI_add, pk_mul, nI_leI, nI_ltI, nI_eq, wuS_1, wuS_2, wuA_1, wuA_21, wuA_22, nI_m1, m1_nI, nIlt_m1, m1lt_nI, Nat.reduceEqDiff, Nat.reduceAdd, Nat.reduceMul, Nat.reduceSub, Nat.reduceLT, Nat.reduceLeDiff, reduceIte, if_true, if_false, Bool.false_eq_true, Nat.add_zero, Nat.zero_add, ne_eq, not_false_eq_true, not_true_eq_false, Nat.not_lt_zero, Nat.add_left_cancel_iff, Nat.add_right_cancel_iff, eq_self, upd_s, pk_sub, nI_pm, Nat.add_sub_cancel, List.length_cons, List.length_nil, Nat.add_eq_zero_iff, Nat.succ_ne_zero, and_false, false_and, l14, l18, l21, l23, l24, l26, l28, l29, l34, l35, l36, l41, l42, l43, l45, l47, l48, l49, l50, l51, l52, l57, l58, l59, l62, l63, l64, l96, l97, l98, l101, l102, l103, l104, l105, l106, l107, l108, l109, l110, l111, l112, l113, l114, l115, l116, l117, l118, l119, l121, l122, l127, l255, l700, l1320, l1000000]; exact QA.il q1) ?_
  rintro n hn1 hn2 rfl
  simp (disch := omega) only [xB_s, xB2_s, xGet_s, xPut_s, xAld_s, xAst_s, xIf_t, xBool_s, l0, l1, l2, l3, l4, l5, l6, l7, l8, l9, l10, l11, l12, l13, l15, l16, l17, l19, l20, l25, l27, l30, l31, l32, l33, l39, l40, l60, l61, l99, l100, l120, l256, l999, l1999, l99999, lm, nI_add, pk_mul, nI_leI, nI_ltI, nI_eq, wuS_1, wuS_2, wuA_1, wuA_21, wuA_22, nI_m1, m1_nI, nIlt_m1, m1lt_nI, Nat.reduceEqDiff, Nat.reduceAdd, Nat.reduceMul, Nat.reduceSub, Nat.reduceLT, Nat.reduceLeDiff, reduceIte, if_true, if_false, Bool.false_eq_true, Nat.add_zero, Nat.zero_add, ne_eq, not_false_eq_true, not_true_eq_false, Nat.not_lt_zero, Nat.add_left_cancel_iff, Nat.add_right_cancel_iff, eq_self, upd_s, pk_sub, nI_pm, Nat.add_sub_cancel, List.length_cons, List.length_nil, Nat.add_eq_zero_iff, Nat.succ_ne_zero, and_false, false_and, l14, l18, l21, l23, l24, l26, l28, l29, l34, l35, l36, l41, l42, l43, l45, l47, l48, l49, l50, l51, l52, l57, l58, l59, l62, l63, l64, l96, l97, l98, l101, l102, l103, l104, l105, l106, l107, l108, l109, l110, l111, l112, l113, l114, l115, l116, l117, l118, l119, l121, l122, l127, l255, l700, l1320, l1000000]
  refine d_next h q1 z1 hd ?_
  intro wx' wm' i1 i2 i3 i4 i5 m1 m2 m3 m4 m5
  have hok := turns_ok (ex := exC 0) hy d
  have hN : ∀ p, cmN t (exC 0) (turns t (exC 0) y d) d p < 2 ^ 30 := fun p => by
    have := cmN_le (y := turns t (exC 0) y d) (ex := exC 0) (p := p) (d := d) (e := 0) ho hok (Nat.le_refl 0)
    omega
  have dc : ∀ p, p < tP t → L_X10_doesCome (nI 0) (nI p) wm' = some (nI (cmB t (turns t (exC 0) y d) p).toNat, wm') := fun p hp => by
    have := m_doesCome (y := y) (b := 0) m3 m4.2.2.1 ho (by omega) hp
    rw [cmB_turns]; exact this
  refine R2.wp (x_club i2 ho i4 i5 (fun p _ => hN p) hn2) (m_club m3 ho hd dc m5 hN hn2) ?_
  rintro ⟨ax, ax'⟩ ⟨am, am'⟩ ⟨c1, v, c2, c3⟩ ⟨c4, c5⟩
  obtain rfl : ax' = wx' := c1
  obtain rfl : am' = wm' := c4
  obtain rfl : ax = .inl v := c2
  exact ⟨i1, m1, m2, clOk_eq c5 c3⟩
end
