section
/-! ===== the law's heap: the object, its town, the reference, the row 'out' ===== -/
abbrev aF : Type := wS → wS → (Nat → Int64) → aH
def LH (F : aF) (o : wO) (n s : Nat) : Prop := (∀ wm u, EX (fun wx => F wx wm u) 40 o) ∧ (∀ wx u, Emb (fun wm => F wx wm u) 100 0 tbM) ∧ (∀ wx wm u, (F wx wm u)[132]? = some (aU u)) ∧ (∀ wx wm u u', (F wx wm u).set 132 (aU u') = F wx wm u') ∧ (∀ wx wm u, (F wx wm u).length = n ∧ aSl (F wx wm u) = s) ∧ 133 ≤ n
theorem aSl_app (a b : aH) : aSl (a ++ b) = aSl a + aSl b := by simp [aSl]
theorem EX.app {A : wS → aH} {bx : Nat} {o : wO} (E : EX A bx o) (B : aH) : EX (fun w => A w ++ B) bx o := ⟨E.1.app (fun _ _ _ _ _ _ => rfl), E.2.1.app (fun _ _ _ _ _ _ => rfl), fun h => (E.2.2.1 h).app (fun _ _ _ _ _ _ => rfl), fun h => (E.2.2.2 h).app (fun _ _ _ _ _ _ => rfl)⟩
theorem LH.app {F : aF} {o : wO} {n s : Nat} (h : LH F o n s) (B : aH) : LH (fun wx wm u => F wx wm u ++ B) o (n + B.length) (s + aSl B) := by
  obtain ⟨h1, h2, h3, h4, h5, h6⟩ := h
  refine ⟨fun wm u => (h1 wm u).app B, fun wx u => (h2 wx u).app (fun _ _ _ _ _ _ => rfl), fun wx wm u => ?_, fun wx wm u u' => ?_, fun wx wm u => ⟨?_, ?_⟩, by omega⟩
  · rw [List.getElem?_append_left (by rw [(h5 wx wm u).1]; omega)]
    exact h3 wx wm u
  · rw [List.set_append_left _ _ (by rw [(h5 wx wm u).1]; omega), h4]
  · rw [List.length_append, (h5 wx wm u).1]
  · rw [aSl_app, (h5 wx wm u).2]
/-! the town's cells as they were -/
theorem mrg_self (w : wS) : mrg w w = w := by
  obtain ⟨a, b, c, d, e⟩ := w
  unfold mrg
  simp
theorem mrg_far {w0 w w' : wS} {c : Nat} (hc : 1000 ≤ c) (h : wEq w w' c) : mrg w0 w = mrg w0 w' := by
  obtain ⟨e1, e2, e3, e4, e5⟩ := h
  unfold mrg
  refine Prod.ext (funext fun k => ?_) (Prod.ext (funext fun k => ?_) (Prod.ext (funext fun k => ?_) (Prod.ext (funext fun k => ?_) (funext fun k => ?_))))
  · show (if k < 100000 then w.1 k else w0.1 k) = if k < 100000 then w'.1 k else w0.1 k
    by_cases hk : k < 100000
    · rw [if_pos hk, if_pos hk, e1 k (by omega)]
    · rw [if_neg hk, if_neg hk]
  · show (if k < 1000 then w.2.1 k else w0.2.1 k) = if k < 1000 then w'.2.1 k else w0.2.1 k
    by_cases hk : k < 1000
    · rw [if_pos hk, if_pos hk, e2 k (by omega)]
    · rw [if_neg hk, if_neg hk]
  · show (if k < 100000 then w.2.2.1 k else w0.2.2.1 k) = if k < 100000 then w'.2.2.1 k else w0.2.2.1 k
    by_cases hk : k < 100000
    · rw [if_pos hk, if_pos hk, e3 k (by omega)]
    · rw [if_neg hk, if_neg hk]
  · show (if k < 1000 then w.2.2.2.1 k else w0.2.2.2.1 k) = if k < 1000 then w'.2.2.2.1 k else w0.2.2.2.1 k
    by_cases hk : k < 1000
    · rw [if_pos hk, if_pos hk, e4 k (by omega)]
    · rw [if_neg hk, if_neg hk]
  · show (if k < 100000 then w.2.2.2.2 k else w0.2.2.2.2 k) = if k < 100000 then w'.2.2.2.2 k else w0.2.2.2.2 k
    by_cases hk : k < 100000
    · rw [if_pos hk, if_pos hk, e5 k (by omega)]
    · rw [if_neg hk, if_neg hk]
theorem mrg_near {w0 w w' : wS} {c : Nat} (h : wEq w w' c) : wEq (mrg w0 w) (mrg w0 w') c := by
  obtain ⟨e1, e2, e3, e4, e5⟩ := h
  refine ⟨fun k hk => ?_, fun k hk => ?_, fun k hk => ?_, fun k hk => ?_, fun k hk => ?_⟩
  · show (if k < 100000 then w.1 k else w0.1 k) = if k < 100000 then w'.1 k else w0.1 k
    rw [e1 k hk]
  · show (if k < 1000 then w.2.1 k else w0.2.1 k) = if k < 1000 then w'.2.1 k else w0.2.1 k
    rw [e2 k hk]
  · show (if k < 100000 then w.2.2.1 k else w0.2.2.1 k) = if k < 100000 then w'.2.2.1 k else w0.2.2.1 k
    rw [e3 k hk]
  · show (if k < 1000 then w.2.2.2.1 k else w0.2.2.2.1 k) = if k < 1000 then w'.2.2.2.1 k else w0.2.2.2.1 k
    rw [e4 k hk]
  · show (if k < 100000 then w.2.2.2.2 k else w0.2.2.2.2 k) = if k < 100000 then w'.2.2.2.2 k else w0.2.2.2.2 k
    rw [e5 k hk]
theorem mrg_C {b c : Nat} {w0 w : wS} (hc : c < 1000) (d : wD) (h100 : ∀ o, d = .inl o → o.2.length ≤ 100) : wC b (mrg w0 w) c d = wC b w c d := by
  cases d with
  | inl o =>
    have hl := h100 o rfl
    simp only [wC]
    congr 3
    unfold wFs
    apply List.ext_getElem?
    intro j
    simp only [List.getElem?_mapIdx]
    cases hj : o.2[j]? with
    | none => rfl
    | some fd =>
      have hj' : j < 100 := Nat.lt_of_lt_of_le (List.getElem?_eq_some_iff.mp hj).1 hl
      have hq : 100 * c + j < 100000 := by omega
      simp only [Option.map_some]
      congr 1
      unfold wF
      split
      · exact congrArg Value.int (if_pos hq)
      · rfl
      · exact if_pos hq
      · exact congrArg Value.long (if_pos hq)
  | inr a =>
    simp only [wC, wAr]
    rw [show (mrg w0 w).2.1 c = w.2.1 c from if_pos hc, show (mrg w0 w).2.2.2.1 c = w.2.2.2.1 c from if_pos hc]
theorem Emb.mg {A : wS → aH} {b : Nat} {tb : List wD} (E : Emb A b 0 tb) (w0 : wS) (hok : wOk tb = true) (hl : tb.length ≤ 1000) : Emb (fun w => A (mrg w0 w)) b 0 tb := by
  refine ⟨E.1, fun w k d hk => ?_, fun w w' k d hk he => ?_⟩
  · have hkl := (List.getElem?_eq_some_iff.mp hk).1
    rw [E.2.1 _ k d hk, mrg_C (by omega) d (wOk_at hok hk)]
  · have hkl := (List.getElem?_eq_some_iff.mp hk).1
    rw [← mrg_C (w0 := w0) (by omega) d (wOk_at hok hk)]
    exact E.2.2 _ _ k d hk (mrg_near he)
theorem LH.kd {F : aF} {o : wO} {n s : Nat} (h : LH F o n s) (w0 wm : wS) (u : Nat → Int64) : KD (fun w => F (mrg w0 w) wm u) 40 (n, 0, 0, 0, 0) := by
  obtain ⟨h1, h2, h3, h4, h5, h6⟩ := h
  refine ⟨(h1 wm u).1.mg w0 ok_X (by rw [len_X]; omega), fun w w' c hc he => ?_, fun w => (h5 _ wm u).1, by show 40 ≤ n; omega, Or.inl ⟨rfl, rfl⟩⟩
  show F (mrg w0 w) wm u = F (mrg w0 w') wm u
  rw [mrg_far hc he]
/-- a town's block -/
def tBlk (o : wO) (w : wS) : aH := wWin tbT (oT o) 1000 w ++ (wRs o w ++ [])
theorem aSl_win {tb : List wD} {b κ : Nat} {w : wS} : aSl (wWin tb b κ w) = (tb.map (fun d => match d with
    | .inl o => o.2.length
    | .inr a => a.2)).sum := by
  unfold aSl wWin
  congr 1
  apply List.ext_getElem?
  intro k
  simp only [List.getElem?_mapIdx, List.getElem?_map]
  cases tb[k]? with
  | none => rfl
  | some d =>
    cases d with
    | inl o => simp [wC, aSz, wFs]
    | inr a => simp [wC, aSz]
def szO (o : wO) : Prop := oRn o ≤ 700 ∧ oSn o ≤ 700
theorem tBlk_sz {o : wO} {w : wS} (h : szO o) : (tBlk o w).length ≤ 13 ∧ aSl (tBlk o w) ≤ 1600 := by
  have hT : (wWin tbT (oT o) 1000 w).length = 7 := by rw [wWin_len, len_T]
  have hTs : aSl (wWin tbT (oT o) 1000 w) = 55 := by rw [aSl_win]; rfl
  have hR : ∀ k b κ, k ≤ 700 → (wWin (tbR k) b κ w).length = 3 ∧ aSl (wWin (tbR k) b κ w) ≤ 766 := fun k b κ hk => by
    refine ⟨by rw [wWin_len, len_R], ?_⟩
    rw [aSl_win]
    show 2 + (k + (64 + 0)) ≤ 766
    omega
  have hr := hR _ (oR o) 2000 h.1
  have hs := hR _ (oS o) 3000 h.2
  unfold tBlk wRs
  rw [List.length_append, List.append_nil, aSl_app, hT, hTs]
  have h0 : aSl [] = 0 := rfl
  by_cases c1 : oR o = 0
  · by_cases c2 : oS o = 0
    · rw [if_pos c1, if_pos c2, List.length_nil, h0]; omega
    · rw [if_pos c1, if_neg c2]; omega
  · by_cases c2 : oS o = 0
    · rw [if_neg c1, if_pos c2]; omega
    · by_cases c3 : oR o < oS o
      · rw [if_neg c1, if_neg c2, if_pos c3, List.length_append, aSl_app]; omega
      · rw [if_neg c1, if_neg c2, if_neg c3, List.length_append, aSl_app]; omega
theorem tBlk_al (o : wO) (w w' : wS) : (tBlk o w).length = (tBlk o w').length ∧ aSl (tBlk o w) = aSl (tBlk o w') := by
  have hW : ∀ (tb : List wD) (b κ : Nat), (wWin tb b κ w).length = (wWin tb b κ w').length ∧ aSl (wWin tb b κ w) = aSl (wWin tb b κ w') := fun tb b κ => ⟨by rw [wWin_len, wWin_len], by rw [aSl_win, aSl_win]⟩
  unfold tBlk wRs
  rw [List.append_nil, List.append_nil, List.length_append, List.length_append, aSl_app, aSl_app, (hW tbT (oT o) 1000).1, (hW tbT (oT o) 1000).2]
  by_cases c1 : oR o = 0
  · by_cases c2 : oS o = 0
    · rw [if_pos c1, if_pos c2, if_pos c1, if_pos c2]; exact ⟨rfl, rfl⟩
    · rw [if_pos c1, if_neg c2, if_pos c1, if_neg c2, (hW (tbR (oSn o)) (oS o) 3000).1, (hW (tbR (oSn o)) (oS o) 3000).2]; exact ⟨rfl, rfl⟩
  · by_cases c2 : oS o = 0
    · rw [if_neg c1, if_pos c2, if_neg c1, if_pos c2, (hW (tbR (oRn o)) (oR o) 2000).1, (hW (tbR (oRn o)) (oR o) 2000).2]; exact ⟨rfl, rfl⟩
    · by_cases c3 : oR o < oS o
      · rw [if_neg c1, if_neg c2, if_pos c3, if_neg c1, if_neg c2, if_pos c3, List.length_append, List.length_append, aSl_app, aSl_app, (hW (tbR (oSn o)) (oS o) 3000).1, (hW (tbR (oSn o)) (oS o) 3000).2, (hW (tbR (oRn o)) (oR o) 2000).1, (hW (tbR (oRn o)) (oR o) 2000).2]; exact ⟨rfl, rfl⟩
      · rw [if_neg c1, if_neg c2, if_neg c3, if_neg c1, if_neg c2, if_neg c3, List.length_append, List.length_append, aSl_app, aSl_app, (hW (tbR (oSn o)) (oS o) 3000).1, (hW (tbR (oSn o)) (oS o) 3000).2, (hW (tbR (oRn o)) (oR o) 2000).1, (hW (tbR (oRn o)) (oR o) 2000).2]; exact ⟨rfl, rfl⟩
theorem LH.town {F : aF} {o o' : wO} {n s : Nat} (h : LH F o n s) (w0 : wS) (ho : oT o' = n) (hok : oOk o') (w9 : wS) : LH (fun wx wm u => HD (fun w => F (mrg w0 w) wm u) o' wx) o' (n + (tBlk o' w9).length) (s + aSl (tBlk o' w9)) := by
  have hk := h.kd w0
  obtain ⟨h1, h2, h3, h4, h5, h6⟩ := h
  have e : ∀ wx wm u, HD (fun w => F (mrg w0 w) wm u) o' wx = F (mrg w0 wx) wm u ++ tBlk o' wx := fun wx wm u => rfl
  refine ⟨fun wm u => ((hk wm u).to ho hok).E, fun wx u => (h2 (mrg w0 wx) u).app (Q := fun _ => tBlk o' wx) (fun _ _ _ _ _ _ => rfl), fun wx wm u => ?_, fun wx wm u u' => ?_, fun wx wm u => ⟨?_, ?_⟩, by omega⟩
  · show (F (mrg w0 wx) wm u ++ tBlk o' wx)[132]? = _
    rw [List.getElem?_append_left (by rw [(h5 _ wm u).1]; omega)]
    exact h3 _ wm u
  · show List.set (F (mrg w0 wx) wm u ++ tBlk o' wx) 132 (aU u') = F (mrg w0 wx) wm u' ++ tBlk o' wx
    rw [List.set_append_left _ _ (by rw [(h5 _ wm u).1]; omega), h4]
  · show List.length (F (mrg w0 wx) wm u ++ tBlk o' wx) = _
    rw [List.length_append, (h5 _ wm u).1, (tBlk_al o' wx w9).1]
  · show aSl (F (mrg w0 wx) wm u ++ tBlk o' wx) = _
    rw [aSl_app, (h5 _ wm u).2, (tBlk_al o' wx w9).2]
/-! how large a draft's rules are -/
theorem z_169 {o : wO} {y0 : Int32} {w : wS} (h : szO o) : pp (J_X2_line_169 o y0 w) (fun r => szO r.2.1) := pp_B pp_any (fun _ _ => pp_some h)
theorem z_151 {o : wO} {x1 : Int32} {w : wS} (h : szO o) : pp (J_X2_line_151 o x1 w) (fun r => szO r.2.1) := pp_if (z_169 h) (pp_B2 pp_any (fun _ _ _ => pp_if (z_169 h) (z_169 h)))
theorem z_rule {o : wO} {a : Int32} {w : wS} (h : szO o) : pp (xRule o a w) (fun r => szO r.2.1) := ⟨fun r e => by
  obtain ⟨hc, e⟩ := xIf_some e
  obtain rfl := Option.some.inj e
  have hc := of_decide_eq_true hc
  have hl : (w.1 104).toNatClampNeg < 700 := hc.2.1
  show szO (oNew o a _)
  unfold oNew
  by_cases ha : a = 0
  · rw [if_pos ha]; exact ⟨Nat.le_of_lt hl, h.2⟩
  · rw [if_neg ha]; exact ⟨h.1, Nat.le_of_lt hl⟩, trivial⟩
theorem z_told {o : wO} {a : Int32} {w : wS} (h : szO o) : pp (L_X2_ruleTold o a w) (fun r => szO r.2.1) := by
  unfold L_X2_ruleTold
  refine pp_xIf (pp_if ?_ ?_)
  · exact pp_B pp_any (fun _ _ => pp_B pp_any (fun _ _ => pp_B pp_any (fun _ _ => pp_B pp_any (fun _ _ => pp_B2 pp_any (fun _ _ _ => pp_if (pp_some h) (z_rule h))))))
  · exact pp_xIf (pp_B2 pp_any (fun _ _ _ => pp_B pp_any (fun _ _ => pp_some h)))
theorem z_line {o : wO} {w : wS} (h : szO o) : pp (L_X2_line o w) (fun r => szO r.2.1) := by
  unfold L_X2_line
  repeat' (first
    | exact z_151 h
    | (refine pp_B3 (z_told h) ?_; intro _ _ _ h'; exact z_151 h')
    | (refine pp_B2 pp_any ?_; intro _ _ _)
    | refine pp_if ?_ ?_)
theorem z_read {N : Nat} {i : Int32} {o : wO} {w : wS} (h : szO o) : pp (xRead N i o w) (fun r => szO r.2.1) := by
  unfold xRead
  refine pp_loop (I := fun σ => szO σ.2.1) (fun kk hkk σ hσ => ?_) _ _ h
  refine pp_if (pp_xIf (pp_some hσ)) (pp_B pp_any (fun _ _ => pp_if (pp_xIf (pp_some hσ)) (pp_B3 (z_line hσ) (fun _ o1 w1 h1 => pp_xIf (pp_if (pp_some h1) (hkk _ h1))))))
theorem z_town {bt : Nat} {n : Int32} {w : wS} : pp (L_X9_town bt n w) (fun r => szO r.2.1) := by
  have h0 : szO (bt, 0, 0, 0, 0) := ⟨Nat.zero_le _, Nat.zero_le _⟩
  unfold L_X9_town L_X2_read
  refine pp_B3 (P := fun r => szO r.2.1) (pp_B pp_any (fun _ _ => pp_B pp_any (fun _ _ => pp_B pp_any (fun _ _ => pp_B pp_any (fun _ _ => z_read h0))))) (fun v o1 w1 h1 => ?_)
  refine pp_B pp_any (fun _ _ => pp_B pp_any (fun _ _ => pp_B pp_any (fun _ _ => pp_if ?_ (pp_if ?_ ⟨fun _ e => (by cases e), trivial⟩))))
  · exact pp_B pp_any (fun _ _ => pp_B pp_any (fun _ _ => pp_B pp_any (fun _ _ => pp_some h1)))
  · exact pp_B pp_any (fun _ _ => pp_B pp_any (fun _ _ => pp_B pp_any (fun _ _ => pp_some h1)))
end
