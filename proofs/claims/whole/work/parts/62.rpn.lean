/-! ===== frames ===== -/
def Fr (K A : List Nat) (w w' : wS) : Prop := (∀ k, k ∉ K → w'.1 k = w.1 k) ∧ (∀ c, c ∉ A → w'.2.1 c = w.2.1 c) ∧ w'.2.2 = w.2.2
theorem Fr.refl {K A : List Nat} {w : wS} : Fr K A w w := ⟨fun _ _ => rfl, fun _ _ => rfl, rfl⟩
theorem Fr.trans {K A : List Nat} {w w' w'' : wS} (h : Fr K A w w') (h' : Fr K A w' w'') : Fr K A w w'' := ⟨fun k hk => (h'.1 k hk).trans (h.1 k hk), fun c hc => (h'.2.1 c hc).trans (h.2.1 c hc), h'.2.2.trans h.2.2⟩
theorem Fr.mono {K A K' A' : List Nat} {w w' : wS} (h : Fr K A w w') (hK : ∀ k, k ∈ K → k ∈ K') (hA : ∀ k, k ∈ A → k ∈ A') : Fr K' A' w w' := ⟨fun k hk => h.1 k (fun q => hk (hK k q)), fun c hc => h.2.1 c (fun q => hc (hA c q)), h.2.2⟩
theorem Fr.S {K A : List Nat} {w w' : wS} {k : Nat} {v : Int32} (h : Fr K A w w') (hk : k ∈ K) : Fr K A w (wuS w' k v) := ⟨fun j hj => by
  have e : ¬ j = k := fun e => hj (by rw [e]; exact hk)
  rw [wuS_1, if_neg e]
  exact h.1 j hj, h.2.1, h.2.2⟩
theorem Fr.A {K A : List Nat} {w w' : wS} {c : Nat} {f : Nat → Int32} (h : Fr K A w w') (hc : c ∈ A) : Fr K A w (wuA w' c f) := ⟨h.1, fun j hj => by
  have e : ¬ j = c := fun e => hj (by rw [e]; exact hc)
  rw [wuA_21, if_neg e]
  exact h.2.1 j hj, h.2.2⟩
theorem nI_pm {n : Nat} (h : 1 ≤ n) : nI n + mI = nI (n - 1) := by
  have := pk_m1 (n - 1)
  rw [show n - 1 + 1 = n by omega] at this
  exact this
/-! ===== rules, by steps: (0, a number), (1, a value), (2, not), (3, an operator) ===== -/
abbrev Op : Type := Nat × Nat
def bop (a : Nat) (u v : Int32) : Int32 :=
  if a = 0 then (if u = nI 0 then nI 0 else if v = nI 0 then nI 0 else nI 1)
  else if a = 1 then (if u = nI 0 then (if v = nI 0 then nI 0 else nI 1) else nI 1)
  else if a = 2 then (if v ≤ u then nI 0 else nI 1)
  else if a = 3 then (if u = v then nI 1 else nI 0)
  else if a = 4 then u + v
  else if a = 5 then u - v
  else if a = 6 then u * v
  else if v = nI 0 then nI 0 else u / v
def evR (vs : Nat → Int32) : List Op → List Int32 → Int32
  | [], st => st.headD 0
  | s :: r, st => if s.1 = 0 then evR vs r (nI s.2 :: st) else if s.1 = 1 then evR vs r (vs s.2 :: st)
    else if s.1 = 2 then (match st with
      | v :: q => evR vs r ((if v = nI 0 then nI 1 else nI 0) :: q)
      | [] => 0)
    else match st with
      | v :: u :: q => evR vs r (bop s.2 u v :: q)
      | _ => 0
def wfR : Nat → List Op → Prop
  | h, [] => h = 1
  | h, s :: r => if s.1 = 0 then h < 64 ∧ s.2 < 10000 ∧ wfR (h + 1) r else if s.1 = 1 then h < 64 ∧ s.2 < 7 ∧ wfR (h + 1) r else if s.1 = 2 then 1 ≤ h ∧ wfR h r else 2 ≤ h ∧ s.2 < 8 ∧ wfR (h - 1) r
/-- the rule in the reference's code -/
def cdA (A : Nat → Int32) : Nat → List Op → Prop
  | k, [] => k < 1400 ∧ A k = nI 0
  | k, s :: r => if s.1 = 0 then k + 1 < 1400 ∧ A k = nI 1 ∧ A (k + 1) = nI s.2 ∧ cdA A (k + 2) r
    else if s.1 = 1 then k + 1 < 1400 ∧ A k = nI 2 ∧ A (k + 1) = nI s.2 ∧ cdA A (k + 2) r
    else if s.1 = 2 then k < 1400 ∧ A k = nI 3 ∧ cdA A (k + 1) r
    else k < 1400 ∧ A k = nI (4 + s.2) ∧ cdA A (k + 1) r
theorem cdA_len {A : Nat → Int32} : ∀ {s : List Op} {k : Nat}, cdA A k s → k + s.length < 1400
  | [], k, h => h.1
  | s :: r, k, h => by
    unfold cdA at h
    rw [List.length_cons]
    split at h
    · have := cdA_len h.2.2.2; omega
    · split at h
      · have := cdA_len h.2.2.2; omega
      · split at h
        · have := cdA_len h.2.2; omega
        · have := cdA_len h.2.2; omega
/-- a stack, its top first, in an array -/
def StA (A : Nat → Int32) : List Int32 → Prop
  | [] => True
  | v :: q => A q.length = v ∧ StA A q
theorem StA_upd {A : Nat → Int32} {k : Nat} {x : Int32} : ∀ {st : List Int32}, st.length ≤ k → StA A st → StA (upd A k x) st
  | [], _, _ => trivial
  | v :: q, h, hs => by
    rw [List.length_cons] at h
    exact ⟨by rw [upd_s, if_neg (by omega)]; exact hs.1, StA_upd (by omega) hs.2⟩
theorem StA_push {A : Nat → Int32} {x : Int32} {st : List Int32} (h : StA A st) : StA (upd A st.length x) (x :: st) := ⟨by rw [upd_s, if_pos rfl], StA_upd (Nat.le_refl _) h⟩
theorem evR_nil {vs : Nat → Int32} {v : Int32} {q : List Int32} : evR vs [] (v :: q) = v := by
  rw [evR]
  rfl
theorem evR_not {vs : Nat → Int32} {s : Op} {r : List Op} {v : Int32} {q : List Int32} (h0 : ¬ s.1 = 0) (h1 : ¬ s.1 = 1) (h2 : s.1 = 2) : evR vs (s :: r) (v :: q) = evR vs r ((if v = nI 0 then nI 1 else nI 0) :: q) := by
  rw [evR, if_neg h0, if_neg h1, if_pos h2]
theorem evR_op {vs : Nat → Int32} {s : Op} {r : List Op} {u v : Int32} {q : List Int32} (h0 : ¬ s.1 = 0) (h1 : ¬ s.1 = 1) (h2 : ¬ s.1 = 2) : evR vs (s :: r) (v :: u :: q) = evR vs r (bop s.2 u v :: q) := by
  rw [evR, if_neg h0, if_neg h1, if_neg h2]
theorem evR_num {vs : Nat → Int32} {s : Op} {r : List Op} {q : List Int32} (h0 : s.1 = 0) : evR vs (s :: r) q = evR vs r (nI s.2 :: q) := by
  rw [evR.eq_def]
  show (if s.1 = 0 then evR vs r (nI s.2 :: q) else _) = _
  rw [if_pos h0]
theorem evR_val {vs : Nat → Int32} {s : Op} {r : List Op} {q : List Int32} (h0 : ¬ s.1 = 0) (h1 : s.1 = 1) : evR vs (s :: r) q = evR vs r (vs s.2 :: q) := by
  rw [evR.eq_def]
  show (if s.1 = 0 then _ else if s.1 = 1 then evR vs r (vs s.2 :: q) else _) = _
  rw [if_neg h0, if_pos h1]
theorem m_works {a : Nat} {u v : Int32} (h : a < 8) : L_X10_works (nI (4 + a)) u v = some (bop a u v) := by
  have h8 : a = 0 ∨ a = 1 ∨ a = 2 ∨ a = 3 ∨ a = 4 ∨ a = 5 ∨ a = 6 ∨ a = 7 := by omega
  unfold L_X10_works bop
  rcases h8 with rfl | rfl | rfl | rfl | rfl | rfl | rfl | rfl
  · simp (disch := omega) only [xB_s, xB2_s, xGet_s, xPut_s, xAld_s, xAst_s, xIf_t, xBool_s, l0, l1, l2, l3, l4, l5, l6, l7, l8, l9, l10, l11, l12, l13, l15, l16, l17, l19, l20, l25, l27, l30, l31, l32, l33, l39, l40, l60, l61, l99, l100, l120, l256, l999, l1999, l99999, lm, nI_add, pk_mul, nI_leI, nI_ltI, nI_eq, wuS_1, wuS_2, wuA_1, wuA_21, wuA_22, nI_m1, m1_nI, nIlt_m1, m1lt_nI, Nat.reduceEqDiff, Nat.reduceAdd, Nat.reduceMul, Nat.reduceSub, Nat.reduceLT, Nat.reduceLeDiff, reduceIte, if_true, if_false, Bool.false_eq_true, Nat.add_zero, Nat.zero_add, ne_eq, not_false_eq_true, not_true_eq_false, Nat.not_lt_zero, Nat.add_left_cancel_iff, Nat.add_right_cancel_iff, eq_self, upd_s, pk_sub, nI_pm, Nat.add_sub_cancel, List.length_cons, List.length_nil, Nat.add_eq_zero_iff, Nat.succ_ne_zero, and_false, false_and, J_X10_works_57, J_X10_works_56]
    by_cases hu : u = nI 0
    · rw [if_pos hu, if_pos hu]
    · rw [if_neg hu, if_neg hu]
      by_cases hv : v = nI 0
      · rw [if_pos hv, if_pos hv]
      · rw [if_neg hv, if_neg hv]
  · simp (disch := omega) only [xB_s, xB2_s, xGet_s, xPut_s, xAld_s, xAst_s, xIf_t, xBool_s, l0, l1, l2, l3, l4, l5, l6, l7, l8, l9, l10, l11, l12, l13, l15, l16, l17, l19, l20, l25, l27, l30, l31, l32, l33, l39, l40, l60, l61, l99, l100, l120, l256, l999, l1999, l99999, lm, nI_add, pk_mul, nI_leI, nI_ltI, nI_eq, wuS_1, wuS_2, wuA_1, wuA_21, wuA_22, nI_m1, m1_nI, nIlt_m1, m1lt_nI, Nat.reduceEqDiff, Nat.reduceAdd, Nat.reduceMul, Nat.reduceSub, Nat.reduceLT, Nat.reduceLeDiff, reduceIte, if_true, if_false, Bool.false_eq_true, Nat.add_zero, Nat.zero_add, ne_eq, not_false_eq_true, not_true_eq_false, Nat.not_lt_zero, Nat.add_left_cancel_iff, Nat.add_right_cancel_iff, eq_self, upd_s, pk_sub, nI_pm, Nat.add_sub_cancel, List.length_cons, List.length_nil, Nat.add_eq_zero_iff, Nat.succ_ne_zero, and_false, false_and, J_X10_works_71, J_X10_works_66]
    by_cases hu : u = nI 0
    · rw [if_pos hu, if_pos hu]
      by_cases hv : v = nI 0
      · rw [if_pos hv, if_pos hv]
      · rw [if_neg hv, if_neg hv]
    · rw [if_neg hu, if_neg hu]
  · simp (disch := omega) only [xB_s, xB2_s, xGet_s, xPut_s, xAld_s, xAst_s, xIf_t, xBool_s, l0, l1, l2, l3, l4, l5, l6, l7, l8, l9, l10, l11, l12, l13, l15, l16, l17, l19, l20, l25, l27, l30, l31, l32, l33, l39, l40, l60, l61, l99, l100, l120, l256, l999, l1999, l99999, lm, nI_add, pk_mul, nI_leI, nI_ltI, nI_eq, wuS_1, wuS_2, wuA_1, wuA_21, wuA_22, nI_m1, m1_nI, nIlt_m1, m1lt_nI, Nat.reduceEqDiff, Nat.reduceAdd, Nat.reduceMul, Nat.reduceSub, Nat.reduceLT, Nat.reduceLeDiff, reduceIte, if_true, if_false, Bool.false_eq_true, Nat.add_zero, Nat.zero_add, ne_eq, not_false_eq_true, not_true_eq_false, Nat.not_lt_zero, Nat.add_left_cancel_iff, Nat.add_right_cancel_iff, eq_self, upd_s, pk_sub, nI_pm, Nat.add_sub_cancel, List.length_cons, List.length_nil, Nat.add_eq_zero_iff, Nat.succ_ne_zero, and_false, false_and, J_X10_works_82]
    by_cases hu : v ≤ u
    · rw [if_pos hu, if_pos hu]
    · rw [if_neg hu, if_neg hu]
  · simp (disch := omega) only [xB_s, xB2_s, xGet_s, xPut_s, xAld_s, xAst_s, xIf_t, xBool_s, l0, l1, l2, l3, l4, l5, l6, l7, l8, l9, l10, l11, l12, l13, l15, l16, l17, l19, l20, l25, l27, l30, l31, l32, l33, l39, l40, l60, l61, l99, l100, l120, l256, l999, l1999, l99999, lm, nI_add, pk_mul, nI_leI, nI_ltI, nI_eq, wuS_1, wuS_2, wuA_1, wuA_21, wuA_22, nI_m1, m1_nI, nIlt_m1, m1lt_nI, Nat.reduceEqDiff, Nat.reduceAdd, Nat.reduceMul, Nat.reduceSub, Nat.reduceLT, Nat.reduceLeDiff, reduceIte, if_true, if_false, Bool.false_eq_true, Nat.add_zero, Nat.zero_add, ne_eq, not_false_eq_true, not_true_eq_false, Nat.not_lt_zero, Nat.add_left_cancel_iff, Nat.add_right_cancel_iff, eq_self, upd_s, pk_sub, nI_pm, Nat.add_sub_cancel, List.length_cons, List.length_nil, Nat.add_eq_zero_iff, Nat.succ_ne_zero, and_false, false_and, J_X10_works_93]
    by_cases hu : u = v
    · rw [if_pos hu, if_pos hu]
    · rw [if_neg hu, if_neg hu]
  · simp (disch := omega) only [xB_s, xB2_s, xGet_s, xPut_s, xAld_s, xAst_s, xIf_t, xBool_s, l0, l1, l2, l3, l4, l5, l6, l7, l8, l9, l10, l11, l12, l13, l15, l16, l17, l19, l20, l25, l27, l30, l31, l32, l33, l39, l40, l60, l61, l99, l100, l120, l256, l999, l1999, l99999, lm, nI_add, pk_mul, nI_leI, nI_ltI, nI_eq, wuS_1, wuS_2, wuA_1, wuA_21, wuA_22, nI_m1, m1_nI, nIlt_m1, m1lt_nI, Nat.reduceEqDiff, Nat.reduceAdd, Nat.reduceMul, Nat.reduceSub, Nat.reduceLT, Nat.reduceLeDiff, reduceIte, if_true, if_false, Bool.false_eq_true, Nat.add_zero, Nat.zero_add, ne_eq, not_false_eq_true, not_true_eq_false, Nat.not_lt_zero, Nat.add_left_cancel_iff, Nat.add_right_cancel_iff, eq_self, upd_s, pk_sub, nI_pm, Nat.add_sub_cancel, List.length_cons, List.length_nil, Nat.add_eq_zero_iff, Nat.succ_ne_zero, and_false, false_and]
  · simp (disch := omega) only [xB_s, xB2_s, xGet_s, xPut_s, xAld_s, xAst_s, xIf_t, xBool_s, l0, l1, l2, l3, l4, l5, l6, l7, l8, l9, l10, l11, l12, l13, l15, l16, l17, l19, l20, l25, l27, l30, l31, l32, l33, l39, l40, l60, l61, l99, l100, l120, l256, l999, l1999, l99999, lm, nI_add, pk_mul, nI_leI, nI_ltI, nI_eq, wuS_1, wuS_2, wuA_1, wuA_21, wuA_22, nI_m1, m1_nI, nIlt_m1, m1lt_nI, Nat.reduceEqDiff, Nat.reduceAdd, Nat.reduceMul, Nat.reduceSub, Nat.reduceLT, Nat.reduceLeDiff, reduceIte, if_true, if_false, Bool.false_eq_true, Nat.add_zero, Nat.zero_add, ne_eq, not_false_eq_true, not_true_eq_false, Nat.not_lt_zero, Nat.add_left_cancel_iff, Nat.add_right_cancel_iff, eq_self, upd_s, pk_sub, nI_pm, Nat.add_sub_cancel, List.length_cons, List.length_nil, Nat.add_eq_zero_iff, Nat.succ_ne_zero, and_false, false_and]
  · simp (disch := omega) only [xB_s, xB2_s, xGet_s, xPut_s, xAld_s, xAst_s, xIf_t, xBool_s, l0, l1, l2, l3, l4, l5, l6, l7, l8, l9, l10, l11, l12, l13, l15, l16, l17, l19, l20, l25, l27, l30, l31, l32, l33, l39, l40, l60, l61, l99, l100, l120, l256, l999, l1999, l99999, lm, nI_add, pk_mul, nI_leI, nI_ltI, nI_eq, wuS_1, wuS_2, wuA_1, wuA_21, wuA_22, nI_m1, m1_nI, nIlt_m1, m1lt_nI, Nat.reduceEqDiff, Nat.reduceAdd, Nat.reduceMul, Nat.reduceSub, Nat.reduceLT, Nat.reduceLeDiff, reduceIte, if_true, if_false, Bool.false_eq_true, Nat.add_zero, Nat.zero_add, ne_eq, not_false_eq_true, not_true_eq_false, Nat.not_lt_zero, Nat.add_left_cancel_iff, Nat.add_right_cancel_iff, eq_self, upd_s, pk_sub, nI_pm, Nat.add_sub_cancel, List.length_cons, List.length_nil, Nat.add_eq_zero_iff, Nat.succ_ne_zero, and_false, false_and]
  · simp (disch := omega) only [xB_s, xB2_s, xGet_s, xPut_s, xAld_s, xAst_s, xIf_t, xBool_s, l0, l1, l2, l3, l4, l5, l6, l7, l8, l9, l10, l11, l12, l13, l15, l16, l17, l19, l20, l25, l27, l30, l31, l32, l33, l39, l40, l60, l61, l99, l100, l120, l256, l999, l1999, l99999, lm, nI_add, pk_mul, nI_leI, nI_ltI, nI_eq, wuS_1, wuS_2, wuA_1, wuA_21, wuA_22, nI_m1, m1_nI, nIlt_m1, m1lt_nI, Nat.reduceEqDiff, Nat.reduceAdd, Nat.reduceMul, Nat.reduceSub, Nat.reduceLT, Nat.reduceLeDiff, reduceIte, if_true, if_false, Bool.false_eq_true, Nat.add_zero, Nat.zero_add, ne_eq, not_false_eq_true, not_true_eq_false, Nat.not_lt_zero, Nat.add_left_cancel_iff, Nat.add_right_cancel_iff, eq_self, upd_s, pk_sub, nI_pm, Nat.add_sub_cancel, List.length_cons, List.length_nil, Nat.add_eq_zero_iff, Nat.succ_ne_zero, and_false, false_and, J_X10_works_117, xDiv]
    by_cases hu : v = nI 0
    · rw [if_pos hu, if_pos hu]
    · rw [if_neg hu, if_neg hu, if_neg hu]
      rfl
theorem m_reckons {w : wS} {vs : Nat → Int32} {s : List Op} {a : Nat} (hc : cdA (w.2.1 5) a s) (hw : wfR 0 s) (hv : ∀ k, k < 7 → w.2.1 18 k = vs k) : wpO (L_X10_reckons (nI a) w) (fun r => r.1 = evR vs s [] ∧ Fr [] [19] w r.2) := by
  unfold L_X10_reckons P_X10_reckons_4
  have hl := cdA_len hc
  generalize hV : evR vs s [] = V
  refine wp_loop (fun n σ => ∃ (st : List Int32) (ops : List Op) (k : Nat) (w' : wS), σ = (nI st.length, nI k, w') ∧ n = ops.length ∧ st.length ≤ 64 ∧ cdA (w.2.1 5) k ops ∧ wfR st.length ops ∧ evR vs ops st = V ∧ StA (w'.2.1 19) st ∧ Fr [] [19] w w') ?_ 5000 s.length _ (by omega) ⟨[], s, a, w, rfl, rfl, by decide, hc, hw, hV, trivial, Fr.refl⟩
  rintro n _ kk ⟨st, ops, k, w', rfl, rfl, h64, hc, hw, he, hs, hf⟩ hk
  have hA : w'.2.1 5 = w.2.1 5 := hf.2.1 5 (by decide)
  have hB : w'.2.1 18 = w.2.1 18 := hf.2.1 18 (by decide)
  show wpO (B_X10_reckons_4 (fun x2 x3 w => kk (x2, x3, w)) _ (nI st.length) (nI k) w') _
  unfold B_X10_reckons_4
  cases ops with
  | nil =>
    obtain ⟨h1, h2⟩ := hc
    simp (disch := omega) only [xB_s, xB2_s, xGet_s, xPut_s, xAld_s, xAst_s, xIf_t, xBool_s, l0, l1, l2, l3, l4, l5, l6, l7, l8, l9, l10, l11, l12, l13, l15, l16, l17, l19, l20, l25, l27, l30, l31, l32, l33, l39, l40, l60, l61, l99, l100, l120, l256, l999, l1999, l99999, lm, nI_add, pk_mul, nI_leI, nI_ltI, nI_eq, wuS_1, wuS_2, wuA_1, wuA_21, wuA_22, nI_m1, m1_nI, nIlt_m1, m1lt_nI, Nat.reduceEqDiff, Nat.reduceAdd, Nat.reduceMul, Nat.reduceSub, Nat.reduceLT, Nat.reduceLeDiff, reduceIte, if_true, if_false, Bool.false_eq_true, Nat.add_zero, Nat.zero_add, ne_eq, not_false_eq_true, not_true_eq_false, Nat.not_lt_zero, Nat.add_left_cancel_iff, Nat.add_right_cancel_iff, eq_self, upd_s, pk_sub, nI_pm, Nat.add_sub_cancel, List.length_cons, List.length_nil, Nat.add_eq_zero_iff, Nat.succ_ne_zero, and_false, false_and, hA, h2]
    cases st with
    | nil => exact absurd hw (Nat.zero_ne_one)
    | cons v q =>
      have hq : q = [] := List.length_eq_zero_iff.mp (Nat.succ.inj hw)
      subst hq
      rw [evR_nil] at he
      have h0 : w'.2.1 19 0 = v := hs.1
      simp (disch := omega) only [xB_s, xB2_s, xGet_s, xPut_s, xAld_s, xAst_s, xIf_t, xBool_s, l0, l1, l2, l3, l4, l5, l6, l7, l8, l9, l10, l11, l12, l13, l15, l16, l17, l19, l20, l25, l27, l30, l31, l32, l33, l39, l40, l60, l61, l99, l100, l120, l256, l999, l1999, l99999, lm, nI_add, pk_mul, nI_leI, nI_ltI, nI_eq, wuS_1, wuS_2, wuA_1, wuA_21, wuA_22, nI_m1, m1_nI, nIlt_m1, m1lt_nI, Nat.reduceEqDiff, Nat.reduceAdd, Nat.reduceMul, Nat.reduceSub, Nat.reduceLT, Nat.reduceLeDiff, reduceIte, if_true, if_false, Bool.false_eq_true, Nat.add_zero, Nat.zero_add, ne_eq, not_false_eq_true, not_true_eq_false, Nat.not_lt_zero, Nat.add_left_cancel_iff, Nat.add_right_cancel_iff, eq_self, upd_s, pk_sub, nI_pm, Nat.add_sub_cancel, List.length_cons, List.length_nil, Nat.add_eq_zero_iff, Nat.succ_ne_zero, and_false, false_and, h0, he]
      exact wp_some ⟨rfl, hf⟩
  | cons s1 r =>
    unfold cdA at hc
    unfold wfR at hw
    by_cases q0 : s1.1 = 0
    · rw [if_pos q0] at hc hw
      rw [evR_num q0] at he
      obtain ⟨h1, h2, h3, h4⟩ := hc
      simp (disch := omega) only [xB_s, xB2_s, xGet_s, xPut_s, xAld_s, xAst_s, xIf_t, xBool_s, l0, l1, l2, l3, l4, l5, l6, l7, l8, l9, l10, l11, l12, l13, l15, l16, l17, l19, l20, l25, l27, l30, l31, l32, l33, l39, l40, l60, l61, l99, l100, l120, l256, l999, l1999, l99999, lm, nI_add, pk_mul, nI_leI, nI_ltI, nI_eq, wuS_1, wuS_2, wuA_1, wuA_21, wuA_22, nI_m1, m1_nI, nIlt_m1, m1lt_nI, Nat.reduceEqDiff, Nat.reduceAdd, Nat.reduceMul, Nat.reduceSub, Nat.reduceLT, Nat.reduceLeDiff, reduceIte, if_true, if_false, Bool.false_eq_true, Nat.add_zero, Nat.zero_add, ne_eq, not_false_eq_true, not_true_eq_false, Nat.not_lt_zero, Nat.add_left_cancel_iff, Nat.add_right_cancel_iff, eq_self, upd_s, pk_sub, nI_pm, Nat.add_sub_cancel, List.length_cons, List.length_nil, Nat.add_eq_zero_iff, Nat.succ_ne_zero, and_false, false_and, hA, h2, h3, J_X10_reckons_36, J_X10_reckons_67, J_X10_reckons_140]
      refine hk r.length _ (Nat.lt_succ_self _) ⟨nI s1.2 :: st, r, k + 2, _, rfl, rfl, hw.1, h4, hw.2.2, he, ?_, hf.A (by decide)⟩
      exact StA_push hs
    · rw [if_neg q0] at hc hw
      by_cases q1 : s1.1 = 1
      · rw [if_pos q1] at hc hw
        rw [evR_val q0 q1] at he
        obtain ⟨h1, h2, h3, h4⟩ := hc
        obtain ⟨g1, g2, g3⟩ := hw
        simp (disch := omega) only [xB_s, xB2_s, xGet_s, xPut_s, xAld_s, xAst_s, xIf_t, xBool_s, l0, l1, l2, l3, l4, l5, l6, l7, l8, l9, l10, l11, l12, l13, l15, l16, l17, l19, l20, l25, l27, l30, l31, l32, l33, l39, l40, l60, l61, l99, l100, l120, l256, l999, l1999, l99999, lm, nI_add, pk_mul, nI_leI, nI_ltI, nI_eq, wuS_1, wuS_2, wuA_1, wuA_21, wuA_22, nI_m1, m1_nI, nIlt_m1, m1lt_nI, Nat.reduceEqDiff, Nat.reduceAdd, Nat.reduceMul, Nat.reduceSub, Nat.reduceLT, Nat.reduceLeDiff, reduceIte, if_true, if_false, Bool.false_eq_true, Nat.add_zero, Nat.zero_add, ne_eq, not_false_eq_true, not_true_eq_false, Nat.not_lt_zero, Nat.add_left_cancel_iff, Nat.add_right_cancel_iff, eq_self, upd_s, pk_sub, nI_pm, Nat.add_sub_cancel, List.length_cons, List.length_nil, Nat.add_eq_zero_iff, Nat.succ_ne_zero, and_false, false_and, hA, hB, h2, h3, hv _ g2, J_X10_reckons_36, J_X10_reckons_67, J_X10_reckons_140]
        refine hk r.length _ (Nat.lt_succ_self _) ⟨vs s1.2 :: st, r, k + 2, _, rfl, rfl, g1, h4, g3, he, ?_, hf.A (by decide)⟩
        exact StA_push hs
      · rw [if_neg q1] at hc hw
        by_cases q2 : s1.1 = 2
        · rw [if_pos q2] at hc hw
          obtain ⟨h1, h2, h4⟩ := hc
          cases st with
          | nil => exact absurd hw.1 (by decide)
          | cons v q =>
            rw [evR_not q0 q1 q2] at he
            have hq : w'.2.1 19 q.length = v := hs.1
            have hx : q.length + 1 ≤ 64 := h64
            simp (disch := omega) only [xB_s, xB2_s, xGet_s, xPut_s, xAld_s, xAst_s, xIf_t, xBool_s, l0, l1, l2, l3, l4, l5, l6, l7, l8, l9, l10, l11, l12, l13, l15, l16, l17, l19, l20, l25, l27, l30, l31, l32, l33, l39, l40, l60, l61, l99, l100, l120, l256, l999, l1999, l99999, lm, nI_add, pk_mul, nI_leI, nI_ltI, nI_eq, wuS_1, wuS_2, wuA_1, wuA_21, wuA_22, nI_m1, m1_nI, nIlt_m1, m1lt_nI, Nat.reduceEqDiff, Nat.reduceAdd, Nat.reduceMul, Nat.reduceSub, Nat.reduceLT, Nat.reduceLeDiff, reduceIte, if_true, if_false, Bool.false_eq_true, Nat.add_zero, Nat.zero_add, ne_eq, not_false_eq_true, not_true_eq_false, Nat.not_lt_zero, Nat.add_left_cancel_iff, Nat.add_right_cancel_iff, eq_self, upd_s, pk_sub, nI_pm, Nat.add_sub_cancel, List.length_cons, List.length_nil, Nat.add_eq_zero_iff, Nat.succ_ne_zero, and_false, false_and, hA, h2, hq, J_X10_reckons_106, J_X10_reckons_140]
            by_cases hz : v = nI 0
            · rw [if_pos hz] at he ⊢
              exact hk r.length _ (Nat.lt_succ_self _) ⟨nI 1 :: q, r, k + 1, _, rfl, rfl, h64, h4, hw.2, he, StA_push hs.2, hf.A (by decide)⟩
            · rw [if_neg hz] at he ⊢
              exact hk r.length _ (Nat.lt_succ_self _) ⟨nI 0 :: q, r, k + 1, _, rfl, rfl, h64, h4, hw.2, he, StA_push hs.2, hf.A (by decide)⟩
        · rw [if_neg q2] at hc hw
          obtain ⟨h1, h2, h4⟩ := hc
          obtain ⟨g1, g2, g3⟩ := hw
          match st, g1, hs, he, h64, g3 with
          | [], g1, _, _, _, _ => exact absurd g1 (Nat.not_succ_le_zero 1)
          | [v], g1, _, _, _, _ => exact absurd g1 (show ¬ 2 ≤ 1 by decide)
          | v :: u :: q, g1, hs, he, h64, g3 =>
            rw [evR_op q0 q1 q2] at he
            have hq : w'.2.1 19 (q.length + 1) = v := hs.1
            have hq2 : w'.2.1 19 q.length = u := hs.2.1
            have hx : q.length + 1 + 1 ≤ 64 := h64
            simp (disch := omega) only [xB_s, xB2_s, xGet_s, xPut_s, xAld_s, xAst_s, xIf_t, xBool_s, l0, l1, l2, l3, l4, l5, l6, l7, l8, l9, l10, l11, l12, l13, l15, l16, l17, l19, l20, l25, l27, l30, l31, l32, l33, l39, l40, l60, l61, l99, l100, l120, l256, l999, l1999, l99999, lm, nI_add, pk_mul, nI_leI, nI_ltI, nI_eq, wuS_1, wuS_2, wuA_1, wuA_21, wuA_22, nI_m1, m1_nI, nIlt_m1, m1lt_nI, Nat.reduceEqDiff, Nat.reduceAdd, Nat.reduceMul, Nat.reduceSub, Nat.reduceLT, Nat.reduceLeDiff, reduceIte, if_true, if_false, Bool.false_eq_true, Nat.add_zero, Nat.zero_add, ne_eq, not_false_eq_true, not_true_eq_false, Nat.not_lt_zero, Nat.add_left_cancel_iff, Nat.add_right_cancel_iff, eq_self, upd_s, pk_sub, nI_pm, Nat.add_sub_cancel, List.length_cons, List.length_nil, Nat.add_eq_zero_iff, Nat.succ_ne_zero, and_false, false_and, hA, h2, hq, hq2, m_works g2, J_X10_reckons_140, show (4 + s1.2 = 0) = False from eq_false (by omega), show (4 + s1.2 = 1) = False from eq_false (by omega), show (4 + s1.2 = 2) = False from eq_false (by omega), show (4 + s1.2 = 3) = False from eq_false (by omega)]
            exact hk r.length _ (Nat.lt_succ_self _) ⟨bop s1.2 u v :: q, r, k + 1, _, rfl, rfl, by rw [List.length_cons]; omega, h4, g3, he, StA_push hs.2.2, hf.A (by decide)⟩
