/-! ===== Arrays.copyOf, Rule's constructor, Reader.ruleTold ===== -/
theorem nI_nn {n : Int32} (h : ¬ n < 0) : n = nI n.toNatClampNeg := by
  obtain ⟨j, h1, h2⟩ := nI_of h
  subst h2
  rw [nI_clamp h1]
set_option maxRecDepth 20000 in
theorem C_copyOf {G : aG} {h : aH} {i0 n0 m : Nat} {f : Nat → Int32} (hi : 40 ≤ i0) (he : h[i0]? = some (some (.inl (0, n0, .inl f)))) (hm : m < n0) (hn0 : n0 < 100000) : AC G M_J7_copyOf_59c91 [.ref i0, .int (nI m)] h (.inl (some (.ref h.length)), h ++ [some (.inl (0, m, .inl (va_cpy f (fun _ => 0) 0 0 m)))]) := by
  have hlt := (List.getElem?_eq_some_iff.mp he).1
  refine AC.of (by decide) rfl (Nat.le_of_ble_eq_true rfl) ?_
  show AG G M_J7_copyOf_59c91 0 [some (.ref i0), some (.int (nI m)), none] [] _ _
  refine g_iload_n dJ7_copyOf_59c91_0 rfl rfl ?_
  refine g_aload_n dJ7_copyOf_59c91_1 rfl rfl ?_
  refine g_alen (v := nI n0) dJ7_copyOf_59c91_2 hi (show 0 < 4 by decide) he rfl ?_
  refine g_icmp_ne (tgt := 14) dJ7_copyOf_59c91_3 (by decide) (fun q => ?_) (fun q => ?_)
  · refine g_iload_n dJ7_copyOf_59c91_14 rfl rfl ?_
    refine g_new_int (n := m) ar_int dJ7_copyOf_59c91_15 (nI_pos (by omega)) (nI_clamp (by omega)) (by omega) ?_
    refine g_astore_n (i := 2) dJ7_copyOf_59c91_17 rfl (by decide) rfl ?_
    refine g_aload_n dJ7_copyOf_59c91_18 rfl rfl ?_
    refine g_iconst (v := 0) dJ7_copyOf_59c91_19 (by decide) ?_
    refine g_aload_n dJ7_copyOf_59c91_20 rfl rfl ?_
    refine g_iconst (v := 0) dJ7_copyOf_59c91_21 (by decide) ?_
    refine g_aload_n dJ7_copyOf_59c91_22 rfl rfl ?_
    have he2 : (h ++ [some (.inl (0, m, .inl (fun _ => 0)))])[i0]? = some (some (.inl (0, n0, .inl f))) := by rw [List.getElem?_append_left hlt]; exact he
    have he3 : (h ++ [some (.inl (0, m, .inl (fun _ => (0 : Int32))))] : aH)[h.length]? = some (some (.inl (0, m, .inl (fun _ => 0)))) := by rw [List.getElem?_append_right (Nat.le_refl _), Nat.sub_self]; rfl
    refine g_alen (v := nI n0) dJ7_copyOf_59c91_23 hi (show 0 < 4 by decide) he2 rfl ?_
    refine g_iload_n dJ7_copyOf_59c91_24 rfl rfl ?_
    refine g_mmin (aIn1 889 (by decide +kernel) rfl) mmin_1 mmin_2 mmin_3 (by decide) (Nat.le_of_ble_eq_true rfl) dJ7_copyOf_59c91_25 ?_
    have hmin : xMin (nI n0) (nI m) = nI m := if_pos (nI_lt hm (by omega))
    rw [hmin]
    have hc : (nI m).toNatClampNeg = m := nI_clamp (by omega)
    refine g_copy (n0 := n0) (n1 := m) (aIn1 890 (by decide +kernel) rfl) ac_nat ac_sta ac_ini hi (by omega) he2 he3 (by decide) (by decide) (nI_pos (by omega)) (by rw [hc]; show 0 + m ≤ n0; omega) (by rw [hc]; show 0 + m ≤ m; omega) (by decide) (Nat.le_of_ble_eq_true rfl) dJ7_copyOf_59c91_28 ?_
    rw [hc]
    have hset : (h ++ [some (.inl (0, m, .inl (fun _ => (0 : Int32))))] : aH).set h.length (some (.inl (0, m, .inl (va_cpy f (fun _ => 0) (Int32.toNatClampNeg 0) (Int32.toNatClampNeg 0) m)))) = h ++ [some (.inl (0, m, .inl (va_cpy f (fun _ => 0) 0 0 m)))] := by
      rw [List.set_append_right _ _ (Nat.le_refl _), Nat.sub_self]
      rfl
    rw [hset]
    refine g_aload_n dJ7_copyOf_59c91_31 rfl rfl ?_
    exact g_aret rfl (Or.inr ⟨_, rfl⟩) (Or.inr ⟨_, rfl⟩) dJ7_copyOf_59c91_32
  · exact absurd ((nI_eq (by omega) (by omega)).mp q) (by omega)
set_option maxRecDepth 20000 in
theorem C_X3_init {G : aG} {h : aH} {b n : Nat} {f : Nat → Int32} (hb : h.length = b) (h40 : 40 ≤ b) : AC G M_X3_init [.ref (b + 0), .ref (b + 1)] (h ++ [some (.inr (3, [.null, .null])), some (.inl (0, n, .inl f))]) (.inl none, h ++ [some (.inr (3, [.ref (b + 1), .ref (b + 2)])), some (.inl (0, n, .inl f)), some (.inl (0, 64, .inl (fun _ => 0)))]) := by
  refine AC.of (by decide) rfl (Nat.le_of_ble_eq_true rfl) ?_
  show AG G M_X3_init 0 [some (.ref (b + 0)), some (.ref (b + 1))] [] _ _
  refine g_aload_n dX3_init_0 rfl rfl ?_
  refine g_objInit (aIn1 894 (by decide +kernel) rfl) ob_1 ob_2 (by decide) (Nat.le_of_ble_eq_true rfl) dX3_init_1 ?_
  refine g_aload_n dX3_init_4 rfl rfl ?_
  refine g_bipush (v := 64) dX3_init_5 (by decide) ?_
  refine c_newI (L' := [some (.inr (3, [.null, .null])), some (.inl (0, n, .inl f)), some (.inl (0, 64, .inl (fun _ => 0)))]) hb rfl dX3_init_7 (by decide) (by decide) (by decide) rfl ?_
  refine c_putF (L' := [some (.inr (3, [.null, .ref (b + 2)])), some (.inl (0, n, .inl f)), some (.inl (0, 64, .inl (fun _ => 0)))]) hb h40 rfl (Nat.le_of_ble_eq_true rfl) rfl ff_X3_9 rfl rfl rfl dX3_init_9 ?_
  refine g_aload_n dX3_init_12 rfl rfl ?_
  refine g_aload_n dX3_init_13 rfl rfl ?_
  refine c_putF (L' := [some (.inr (3, [.ref (b + 1), .ref (b + 2)])), some (.inl (0, n, .inl f)), some (.inl (0, 64, .inl (fun _ => 0)))]) hb h40 rfl (Nat.le_of_ble_eq_true rfl) rfl ff_X3_13 rfl rfl rfl dX3_init_14 ?_
  exact g_vret rfl dX3_init_17
/-- the heap while a text is read: nothing stands behind the draft's rules -/
abbrev HD (A : wS → aH) (o : wO) (w : wS) : aH := HR A (fun _ => []) o w
theorem HD_len {A : wS → aH} {o : wO} {w : wS} (hl : (A w).length = oT o) (ho : oOk o) : (HD A o w).length = oT o + 7 + (if oR o = 0 then 0 else 3) + (if oS o = 0 then 0 else 3) := by
  unfold HD HR wRs
  rcases ho with ⟨q1, q2⟩ | ⟨q1, q2⟩ | ⟨q1, q2⟩ | ⟨q1, q2⟩ | ⟨q1, q2⟩
  · simp [q1, q2, wWin_len, len_T, hl]
  · simp [q1, q2, wWin_len, len_T, len_R, hl]
  · simp [q1, q2, wWin_len, len_T, len_R, hl]
  · have : oT o + 7 < oT o + 10 := by omega
    simp [q1, q2, wWin_len, len_T, len_R, hl]
  · have : ¬ oT o + 10 < oT o + 7 := by omega
    simp [q1, q2, wWin_len, len_T, len_R, hl]
/-- a rule more: where it lies, what stands in it -/
def oNew (o : wO) (a : Int32) (m : Nat) : wO := if a = 0 then (oT o, oT o + 7 + (if oS o = 0 then 0 else 3), m, oS o, oSn o) else (oT o, oR o, oRn o, oT o + 7 + (if oR o = 0 then 0 else 3), m)
def wNew (a : Int32) (m : Nat) (w : wS) : wS := wuA (wuA w ((if a = 0 then 2000 else 3000) + 1) (va_cpy (w.2.1 4) (fun _ => 0) 0 0 m)) ((if a = 0 then 2000 else 3000) + 2) (fun _ => 0)
def xRuleC (o : wO) (a : Int32) (w : wS) : Bool := decide (¬ w.1 104 < 0 ∧ (w.1 104).toNatClampNeg < 700 ∧ (a = 0 ∨ a = 1) ∧ (if a = 0 then oR o else oS o) = 0 ∧ w.2.2.2.2 107 = .ref (oT o + 0))
def xRule (o : wO) (a : Int32) (w : wS) : Option (Int32 × wO × wS) := xIf (xRuleC o a w) (some (1, oNew o a (w.1 104).toNatClampNeg, wuR (wNew a (w.1 104).toNatClampNeg w) (if a = 0 then 100009 else 100010) (.ref ((if a = 0 then oR (oNew o a (w.1 104).toNatClampNeg) else oS (oNew o a (w.1 104).toNatClampNeg)) + 0))))
theorem xIf_some {γ : Type} {c : Bool} {k : Option γ} {r : γ} (h : xIf c k = some r) : c = true ∧ k = some r := by
  unfold xIf at h
  by_cases hc : c = true
  · rw [if_pos hc] at h
    exact ⟨hc, h⟩
  · rw [if_neg hc] at h
    cases h
theorem oNew_ok {o : wO} {a : Int32} {m : Nat} (ho : oOk o) (hf : (if a = 0 then oR o else oS o) = 0) : oOk (oNew o a m) := by
  unfold oNew
  by_cases ha : a = 0
  · rw [if_pos ha] at hf ⊢
    have hf' : oR o = 0 := hf
    by_cases hs : oS o = 0
    · rw [if_pos hs]; exact Or.inr (Or.inl ⟨rfl, hs⟩)
    · rw [if_neg hs]
      have : oS o = oT o + 7 := by rcases ho with q | q | q | q | q <;> omega
      exact Or.inr (Or.inr (Or.inr (Or.inr ⟨this, rfl⟩)))
  · rw [if_neg ha] at hf ⊢
    have hf' : oS o = 0 := hf
    by_cases hs : oR o = 0
    · rw [if_pos hs]; exact Or.inr (Or.inr (Or.inl ⟨hs, rfl⟩))
    · rw [if_neg hs]
      have : oR o = oT o + 7 := by rcases ho with q | q | q | q | q <;> omega
      exact Or.inr (Or.inr (Or.inr (Or.inl ⟨this, rfl⟩)))
/-- the heap with the new rule's three cells at its end is the heap of the world behind it -/
theorem HD_new {A : wS → aH} {o : wO} {a : Int32} {m : Nat} {w : wS} (hA : wFar A) (hl : (A w).length = oT o) (ho : oOk o) (hf : (if a = 0 then oR o else oS o) = 0) {b : Nat} (hb : (HD A o w).length = b) : HD A o w ++ [some (.inr (3, [.ref (b + 1), .ref (b + 2)])), some (.inl (0, m, .inl (va_cpy (w.2.1 4) (fun _ => 0) 0 0 m))), some (.inl (0, 64, .inl (fun _ => 0)))] = HD A (oNew o a m) (wNew a m w) := by
  have hlen := HD_len hl ho
  have e1 : ∀ (k : Nat) (f : Nat → Int32) (u : wS), 2000 ≤ k → A u = A (wuA u k f) := fun k f u hk => hA u _ k (by omega) (wuA_eq u k f)
  have e2 : ∀ (k : Nat) (f : Nat → Int32) (u : wS), 2000 ≤ k → wWin tbT (oT o) 1000 u = wWin tbT (oT o) 1000 (wuA u k f) := fun k f u hk => wWin_indep ok_T (wuA_eq u k f) (Or.inr (by rw [len_T]; omega))
  by_cases ha : a = 0
  · rw [if_pos ha] at hf
    have hf' : oR o = 0 := hf
    have e3 : ∀ (n p k : Nat) (f : Nat → Int32) (u : wS), k < 3000 → wWin (tbR n) p 3000 u = wWin (tbR n) p 3000 (wuA u k f) := fun n p k f u hk => wWin_indep (ok_R n) (wuA_eq u k f) (Or.inl hk)
    simp only [wNew, oNew, if_pos ha]
    by_cases hs : oS o = 0
    · rw [if_pos hf', if_pos hs] at hlen
      have hb9 : b = oT o + 7 := by omega
      subst hb9
      simp only [HD, HR, wRs, oR, oS, oT, oRn, oSn] at *
      simp only [hs, hf', if_true, Nat.add_zero, List.append_nil]
      rw [if_neg (by omega), ← e1 _ _ _ (by omega), ← e1 _ _ _ (by omega), ← e2 _ _ _ (by omega), ← e2 _ _ _ (by omega), List.append_assoc]
      rfl
    · have h7 : oS o = oT o + 7 := by rcases ho with q | q | q | q | q <;> omega
      rw [if_pos hf', if_neg hs] at hlen
      have hb9 : b = oT o + 7 + 3 := by omega
      subst hb9
      simp only [HD, HR, wRs, oR, oS, oT, oRn, oSn] at *
      simp only [hs, hf', if_true, if_false, List.append_nil]
      rw [if_neg (by omega), if_neg (by omega), ← e1 _ _ _ (by omega), ← e1 _ _ _ (by omega), ← e2 _ _ _ (by omega), ← e2 _ _ _ (by omega), ← e3 _ _ _ _ _ (by omega), ← e3 _ _ _ _ _ (by omega), List.append_assoc, List.append_assoc]
      rfl
  · rw [if_neg ha] at hf
    have hf' : oS o = 0 := hf
    have e3 : ∀ (n p k : Nat) (f : Nat → Int32) (u : wS), 3000 ≤ k → wWin (tbR n) p 2000 u = wWin (tbR n) p 2000 (wuA u k f) := fun n p k f u hk => wWin_indep (ok_R n) (wuA_eq u k f) (Or.inr (by rw [len_R]; omega))
    simp only [wNew, oNew, if_neg ha]
    by_cases hs : oR o = 0
    · rw [if_pos hs, if_pos hf'] at hlen
      have hb9 : b = oT o + 7 := by omega
      subst hb9
      simp only [HD, HR, wRs, oR, oS, oT, oRn, oSn] at *
      simp only [hs, hf', if_true, Nat.add_zero, List.append_nil]
      rw [if_neg (by omega), ← e1 _ _ _ (by omega), ← e1 _ _ _ (by omega), ← e2 _ _ _ (by omega), ← e2 _ _ _ (by omega), List.append_assoc]
      rfl
    · have h7 : oR o = oT o + 7 := by rcases ho with q | q | q | q | q <;> omega
      rw [if_neg hs, if_pos hf'] at hlen
      have hb9 : b = oT o + 7 + 3 := by omega
      subst hb9
      simp only [HD, HR, wRs, oR, oS, oT, oRn, oSn] at *
      simp only [hs, hf', if_true, if_false, List.append_nil]
      rw [if_neg (by omega), if_pos (by omega), ← e1 _ _ _ (by omega), ← e1 _ _ _ (by omega), ← e2 _ _ _ (by omega), ← e2 _ _ _ (by omega), ← e3 _ _ _ _ _ (by omega), ← e3 _ _ _ _ _ (by omega), List.append_assoc, List.append_assoc]
      rfl
