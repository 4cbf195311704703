/-! ===== heaps made of windows ===== -/
def wWin (tb : List wD) (b κ : Nat) (w : wS) : aH := tb.mapIdx (fun k d => wC b w (κ + k) d)
theorem wWin_len {tb : List wD} {b κ : Nat} {w : wS} : (wWin tb b κ w).length = tb.length := by simp [wWin]
theorem wWin_get {tb : List wD} {b κ k : Nat} {w : wS} {d : wD} (h : tb[k]? = some d) : (wWin tb b κ w)[k]? = some (wC b w (κ + k) d) := by simp [wWin, List.getElem?_mapIdx, h]
theorem wC_indep {b c c0 : Nat} {w w' : wS} (h : wEq w w' c) (hc : c0 ≠ c) (d : wD) (h100 : ∀ o, d = .inl o → o.2.length ≤ 100) : wC b w c0 d = wC b w' c0 d := by
  obtain ⟨e1, e2, e3, e4, e5⟩ := h
  cases d with
  | inl o =>
    have hl := h100 o rfl
    simp only [wC]
    congr 3
    unfold wFs
    apply List.ext_getElem?
    intro j
    simp only [List.getElem?_mapIdx]
    cases hj : o.2[j]? with
    | none => rfl
    | some fd =>
      have hj' : j < 100 := Nat.lt_of_lt_of_le (List.getElem?_eq_some_iff.mp hj).1 hl
      have hq : (100 * c0 + j) / 100 ≠ c := by omega
      simp only [Option.map_some]
      congr 1
      unfold wF
      split
      · rw [e1 _ hq]
      · rfl
      · rw [e5 _ hq]
      · rw [e3 _ hq]
  | inr a =>
    simp only [wC, wAr]
    rw [e2 _ hc, e4 _ hc]
/-- fields are fewer than a hundred -/
def wOk (tb : List wD) : Bool := tb.all (fun d => match d with
  | .inl o => decide (o.2.length ≤ 100)
  | .inr _ => true)
theorem wOk_at {tb : List wD} (h : wOk tb = true) {k : Nat} {d : wD} (hk : tb[k]? = some d) : ∀ o, d = .inl o → o.2.length ≤ 100 := fun o ho => by
  have := List.all_eq_true.mp h d (List.mem_of_getElem? hk)
  rw [ho] at this
  exact of_decide_eq_true this
theorem wWin_indep {tb : List wD} {b κ c : Nat} {w w' : wS} (hok : wOk tb = true) (h : wEq w w' c) (hc : c < κ ∨ κ + tb.length ≤ c) : wWin tb b κ w = wWin tb b κ w' := by
  apply List.ext_getElem?
  intro k
  cases hk : tb[k]? with
  | none => simp [wWin, List.getElem?_mapIdx, hk]
  | some d =>
    have hkl := (List.getElem?_eq_some_iff.mp hk).1
    rw [wWin_get hk, wWin_get hk, wC_indep h (by omega) d (wOk_at hok hk)]
theorem wWin_set {tb : List wD} {b κ k : Nat} {w w' : wS} {d : wD} (hok : wOk tb = true) (hk : tb[k]? = some d) (h : wEq w w' (κ + k)) : (wWin tb b κ w).set k (wC b w' (κ + k) d) = wWin tb b κ w' := by
  apply List.ext_getElem?
  intro j
  have hkl : k < (wWin tb b κ w).length := by rw [wWin_len]; exact (List.getElem?_eq_some_iff.mp hk).1
  by_cases hj : k = j
  · subst hj
    rw [List.getElem?_set_self hkl, wWin_get hk]
  · rw [List.getElem?_set_ne hj]
    cases hd : tb[j]? with
    | none => simp [wWin, List.getElem?_mapIdx, hd]
    | some d' => rw [wWin_get hd, wWin_get hd, wC_indep h (by omega) d' (wOk_at hok hd)]
/-- a window between two stretches that don't show its keys -/
theorem Emb.mid {Hf P Q : wS → aH} {b κ : Nat} {tb : List wD} (h40 : 40 ≤ b) (hok : wOk tb = true) (hH : ∀ w, Hf w = P w ++ (wWin tb b κ w ++ Q w)) (hP : ∀ w, (P w).length = b) (hi : ∀ (w w' : wS) (c : Nat), κ ≤ c → c < κ + tb.length → wEq w w' c → P w = P w' ∧ Q w = Q w') : Emb Hf b κ tb := by
  refine ⟨h40, fun w k d hk => ?_, fun w w' k d hk he => ?_⟩
  · have hkl := (List.getElem?_eq_some_iff.mp hk).1
    rw [hH, List.getElem?_append_right (by rw [hP]; omega), hP, show b + k - b = k by omega, List.getElem?_append_left (by rw [wWin_len]; exact hkl), wWin_get hk]
  · have hkl := (List.getElem?_eq_some_iff.mp hk).1
    obtain ⟨e1, e2⟩ := hi w w' (κ + k) (by omega) (by omega) he
    rw [hH, hH, List.set_append_right _ _ (by rw [hP]; omega), hP, show b + k - b = k by omega, List.set_append_left _ _ (by rw [wWin_len]; exact hkl), wWin_set hok hk he, e1, e2]
/-- what stands behind doesn't matter -/
theorem Emb.app {A Q : wS → aH} {b κ : Nat} {tb : List wD} (E : Emb A b κ tb) (hQ : ∀ (w w' : wS) (c : Nat), κ ≤ c → c < κ + tb.length → wEq w w' c → Q w = Q w') : Emb (fun w => A w ++ Q w) b κ tb := by
  refine ⟨E.1, fun w k d hk => ?_, fun w w' k d hk he => ?_⟩
  · have h1 := E.2.1 w k d hk
    rw [List.getElem?_append_left (List.getElem?_eq_some_iff.mp h1).1]
    exact h1
  · have h1 := E.2.1 w k d hk
    have hkl := (List.getElem?_eq_some_iff.mp hk).1
    show (A w ++ Q w).set (b + k) _ = A w' ++ Q w'
    rw [List.set_append_left _ _ (List.getElem?_eq_some_iff.mp h1).1, E.2.2 w w' k d hk he, hQ w w' (κ + k) (by omega) (by omega) he]
theorem ok_X : wOk tbX = true := by decide +kernel
theorem ok_T : wOk tbT = true := by decide +kernel
theorem ok_M : wOk tbM = true := by decide +kernel
theorem ok_R (n : Nat) : wOk (tbR n) = true := rfl
theorem len_X : tbX.length = 53 := by decide +kernel
theorem len_T : tbT.length = 7 := by decide +kernel
theorem len_M : tbM.length = 32 := by decide +kernel
theorem len_R (n : Nat) : (tbR n).length = 3 := rfl
/-- the two rules behind a town's block, in the order in which they were made -/
def wRs (o : wO) (w : wS) : aH :=
  if oR o = 0 then (if oS o = 0 then [] else wWin (tbR (oSn o)) (oS o) 3000 w)
  else if oS o = 0 then wWin (tbR (oRn o)) (oR o) 2000 w
  else if oR o < oS o then wWin (tbR (oRn o)) (oR o) 2000 w ++ wWin (tbR (oSn o)) (oS o) 3000 w
  else wWin (tbR (oSn o)) (oS o) 3000 w ++ wWin (tbR (oRn o)) (oR o) 2000 w
/-- the places of a town's rules are right -/
def oOk (o : wO) : Prop := (oR o = 0 ∧ oS o = 0) ∨ (oR o = oT o + 7 ∧ oS o = 0) ∨ (oR o = 0 ∧ oS o = oT o + 7) ∨ (oR o = oT o + 7 ∧ oS o = oT o + 10) ∨ (oS o = oT o + 7 ∧ oR o = oT o + 10)
/-- the heap: A ahead (the object's window in it), the town's block, its rules, B behind -/
def HR (A B : wS → aH) (o : wO) (w : wS) : aH := A w ++ (wWin tbT (oT o) 1000 w ++ (wRs o w ++ B w))
/-- a stretch that shows no key of a town -/
def wFar (A : wS → aH) : Prop := ∀ (w w' : wS) (c : Nat), 1000 ≤ c → wEq w w' c → A w = A w'
/-- a stretch that shows no key of the object -/
def wOff (B : wS → aH) : Prop := ∀ (w w' : wS) (c : Nat), wEq w w' c → B w = B w'
theorem wRs_indep {o : wO} {w w' : wS} {c : Nat} (h : wEq w w' c) (hc : c < 2000) : wRs o w = wRs o w' := by
  have e1 := wWin_indep (b := oR o) (κ := 2000) (ok_R (oRn o)) h (Or.inl (by omega))
  have e2 := wWin_indep (b := oS o) (κ := 3000) (ok_R (oSn o)) h (Or.inl (by omega))
  unfold wRs
  rw [e1, e2]
theorem EX_HR {A B : wS → aH} {bx : Nat} {o : wO} (EA : Emb A bx 0 tbX) (hA : wFar A) (hl : ∀ w, (A w).length = oT o) (hB : wOff B) (h40 : 40 ≤ oT o) (ho : oOk o) : EX (HR A B o) bx o := by
  refine ⟨?_, ?_, ?_, ?_⟩
  · refine Emb.app (Q := fun w => wWin tbT (oT o) 1000 w ++ (wRs o w ++ B w)) EA (fun w w' c h1 h2 he => ?_)
    rw [len_X] at h2
    show wWin tbT (oT o) 1000 w ++ (wRs o w ++ B w) = _
    rw [wWin_indep ok_T he (Or.inl (by omega)), wRs_indep he (by omega), hB w w' c he]
  · refine Emb.mid (P := A) (Q := fun w => wRs o w ++ B w) h40 ok_T (fun w => rfl) hl (fun w w' c h1 h2 he => ?_)
    rw [len_T] at h2
    exact ⟨hA w w' c h1 he, by show wRs o w ++ B w = _; rw [wRs_indep he (by omega), hB w w' c he]⟩
  · intro hr
    have hr0 : oR o ≠ 0 := hr
    by_cases hs : oS o = 0
    · refine Emb.mid (P := fun w => A w ++ wWin tbT (oT o) 1000 w) (Q := B) (by rcases ho with q | q | q | q | q <;> omega) (ok_R _) (fun w => ?_) (fun w => ?_) (fun w w' c h1 h2 he => ⟨?_, hB w w' c he⟩)
      · simp [HR, wRs, hr0, hs]
      · rw [List.length_append, hl, wWin_len, len_T]
        rcases ho with q | q | q | q | q <;> omega
      · show A w ++ wWin tbT (oT o) 1000 w = _
        rw [hA w w' c (by omega) he, wWin_indep ok_T he (Or.inr (by rw [len_T]; omega))]
    · by_cases hlt : oR o < oS o
      · refine Emb.mid (P := fun w => A w ++ wWin tbT (oT o) 1000 w) (Q := fun w => wWin (tbR (oSn o)) (oS o) 3000 w ++ B w) (by rcases ho with q | q | q | q | q <;> omega) (ok_R _) (fun w => ?_) (fun w => ?_) (fun w w' c h1 h2 he => ⟨?_, ?_⟩)
        · simp [HR, wRs, hr0, hs, hlt]
        · rw [List.length_append, hl, wWin_len, len_T]
          rcases ho with q | q | q | q | q <;> omega
        · show A w ++ wWin tbT (oT o) 1000 w = _
          rw [hA w w' c (by omega) he, wWin_indep ok_T he (Or.inr (by rw [len_T]; omega))]
        · rw [len_R] at h2
          show wWin (tbR (oSn o)) (oS o) 3000 w ++ B w = _
          rw [wWin_indep (ok_R _) he (Or.inl (by omega)), hB w w' c he]
      · refine Emb.mid (P := fun w => A w ++ (wWin tbT (oT o) 1000 w ++ wWin (tbR (oSn o)) (oS o) 3000 w)) (Q := B) (by rcases ho with q | q | q | q | q <;> omega) (ok_R _) (fun w => ?_) (fun w => ?_) (fun w w' c h1 h2 he => ⟨?_, hB w w' c he⟩)
        · simp [HR, wRs, hr0, hs, hlt]
        · rw [List.length_append, List.length_append, hl, wWin_len, wWin_len, len_T, len_R]
          rcases ho with q | q | q | q | q <;> omega
        · rw [len_R] at h2
          show A w ++ (wWin tbT (oT o) 1000 w ++ wWin (tbR (oSn o)) (oS o) 3000 w) = _
          rw [hA w w' c (by omega) he, wWin_indep ok_T he (Or.inr (by rw [len_T]; omega)), wWin_indep (ok_R _) he (Or.inl (by omega))]
  · intro hs
    have hs0 : oS o ≠ 0 := hs
    by_cases hr : oR o = 0
    · refine Emb.mid (P := fun w => A w ++ wWin tbT (oT o) 1000 w) (Q := B) (by rcases ho with q | q | q | q | q <;> omega) (ok_R _) (fun w => ?_) (fun w => ?_) (fun w w' c h1 h2 he => ⟨?_, hB w w' c he⟩)
      · simp [HR, wRs, hs0, hr]
      · rw [List.length_append, hl, wWin_len, len_T]
        rcases ho with q | q | q | q | q <;> omega
      · show A w ++ wWin tbT (oT o) 1000 w = _
        rw [hA w w' c (by omega) he, wWin_indep ok_T he (Or.inr (by rw [len_T]; omega))]
    · by_cases hlt : oR o < oS o
      · refine Emb.mid (P := fun w => A w ++ (wWin tbT (oT o) 1000 w ++ wWin (tbR (oRn o)) (oR o) 2000 w)) (Q := B) (by rcases ho with q | q | q | q | q <;> omega) (ok_R _) (fun w => ?_) (fun w => ?_) (fun w w' c h1 h2 he => ⟨?_, hB w w' c he⟩)
        · simp [HR, wRs, hs0, hr, hlt]
        · rw [List.length_append, List.length_append, hl, wWin_len, wWin_len, len_T, len_R]
          rcases ho with q | q | q | q | q <;> omega
        · show A w ++ (wWin tbT (oT o) 1000 w ++ wWin (tbR (oRn o)) (oR o) 2000 w) = _
          rw [hA w w' c (by omega) he, wWin_indep ok_T he (Or.inr (by rw [len_T]; omega)), wWin_indep (ok_R _) he (Or.inr (by rw [len_R]; omega))]
      · refine Emb.mid (P := fun w => A w ++ wWin tbT (oT o) 1000 w) (Q := fun w => wWin (tbR (oRn o)) (oR o) 2000 w ++ B w) (by rcases ho with q | q | q | q | q <;> omega) (ok_R _) (fun w => ?_) (fun w => ?_) (fun w w' c h1 h2 he => ⟨?_, ?_⟩)
        · simp [HR, wRs, hs0, hr, hlt]
        · rw [List.length_append, hl, wWin_len, len_T]
          rcases ho with q | q | q | q | q <;> omega
        · show A w ++ wWin tbT (oT o) 1000 w = _
          rw [hA w w' c (by omega) he, wWin_indep ok_T he (Or.inr (by rw [len_T]; omega))]
        · show wWin (tbR (oRn o)) (oR o) 2000 w ++ B w = _
          rw [wWin_indep (ok_R _) he (Or.inr (by rw [len_R]; omega)), hB w w' c he]
